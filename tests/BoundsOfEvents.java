/** The boundary cases of section 2 of the document: what events leave, what is NOW, what is held, and money. */
final class BoundsOfEvents {
  private BoundsOfEvents() {
  }

  static void check() {
    leftOfEnded();
    leftOfDuty();
    leftOfBothAndEither();
    leftOfBehind();
    leftOfTill();
    states();
    nowOutsideOfEnds();
    nowOnce();
    heldAtFirst();
    logOfEach();
    logIsEmptyThen();
    worthsAtFirst();
    accounts();
    fineByEvents();
    fineWithoutEvents();
  }

  private static void left(String text, String row, String due) {
    Clausekeep hall = Checks.hall(text);
    Checks.run(hall, 0, row);
    Checks.same("what is left of " + text + " by " + row, hall.text(0), due);
  }

  // ---- what is LEFT

  private static void leftOfEnded() {
    Checks.quote(0, "What is LEFT of a CLAUSE by an EVENT: of DONE and BROKEN that;");
    for (String text : new String[] {"1", "0A", "0C"}) {
      Clausekeep hall = Checks.hall(text);
      Checks.same("reached of " + text, hall.reached(0), 1);
      Checks.same("found of " + text, hall.found(0, 0), text);
      Checks.same("days of " + text, hall.days(0, 9), 0);
      Checks.same("left of " + text, hall.text(0), text);
      Checks.same("pairs of " + text + " and one that goes on", Checks.hall(text, "~Ap0").pairs(0, 1), 2);
    }
  }

  private static void leftOfDuty() {
    Checks.quote(0, "of a DUTY, if its ACT is done by its PARTY, its first END; by a DAY, with DAYS 0 its second END,"
        + " otherwise it with DAYS 1 less; by all others it as it is.");
    for (char sign : new char[] {'+', '~', '-'}) {
      String ends = "[+Bq9|-Cr9]";
      left(sign + "As0" + ends, "As", "+Bq9");
      left(sign + "As9" + ends, "As", "+Bq9");
      left(sign + "As0" + ends, ".", "-Cr9");
      left(sign + "As1" + ends, ".", sign + "As0" + ends);
      left(sign + "As9" + ends, ".", sign + "As8" + ends);
      left(sign + "As9" + ends, ".........", sign + "As0" + ends);
      left(sign + "As1" + ends, "ApAqArBsCsBqCr", sign + "As1" + ends);
      left(sign + "As0" + ends, "ApAqArBsCsBqCr", sign + "As0" + ends);
    }
    // an END does not see the EVENT that brings it
    left("+Ap0[+Ap0|1]", "Ap", "+Ap0");
    left("~Ap0[1|+Ap0]", ".", "+Ap0");
  }

  private static void leftOfBothAndEither() {
    Checks.quote(0, "Of BOTH and EITHER what is LEFT of each PART;");
    left("+Ap0&-Ap0[+Bq1|1]", "Ap", "+Bq1");
    left("+Ap0&-Ap0[+Bq1|1]", ".", "0A");
    left("+Ap1&+Bp2&~Cp0[1|+Cs3]", ".", "+Ap0&+Bp1&+Cs3");
    left("+Ap0/-Ap0/+Bq3", ".", "1");
    left("+Ap0/+Cp0/+Bq3", ".", "+Bq2");
    left("+Bp0/+Cp0", ".", "0B");
    left("+Cp0&+Bp0", ".", "0B");
    left("+Ap1&+Ap0[0C|+Ap0]", ".", "+Ap0");
    Checks.quote(0, "(All made NORMAL.)");
    left("+Ap0[+Cr1&+Bq1|1]&+As5", "Ap", "+As5&+Bq1&+Cr1");
    left("+Ap0[+Cr1/+Bq1|1]/+As5", "Ap", "+As5/+Bq1/+Cr1");
    left("+Ap0[+Cr1;+Bq1|1];+As5", "Ap", "+Cr1;+Bq1;+As5");
    left("+Ap0[0B|1]@Cr;+As5", "Ap", "0B");
    left("+Ap0[1|1]@Cr;+As5", "Ap", "+As5");
    left("+Ap0[+As5|1]&+As5", "Ap", "+As5");
  }

  private static void leftOfBehind() {
    Checks.quote(0, "of BEHIND what is LEFT of the first one, the second one behind it;");
    left("+Ap0;+Bq0", "Bq", "+Ap0;+Bq0");
    left("+Ap0;+Bq0", "Ap", "+Bq0");
    left("+Ap0;+Bq0", ".", "0A");
    left("+Ap1;+Bq0", ".", "+Ap0;+Bq0");
    left("+Ap1;0B", "Ap", "0B");
    left("2*+Ap0", "Ap", "+Ap0");
    left("4*~Ap0", ".", "~Ap0;~Ap0;~Ap0");
    left("4*~Ap0", "Ap..", "~Ap0");
  }

  private static void leftOfTill() {
    Checks.quote(0, "of TILL, by its EVENT, DONE; otherwise what is LEFT of the CLAUSE, with \"@\" as it was.");
    left("+Ap1@Bq", "Bq", "1");
    left("-Ap1@Ap", "Ap", "1");
    left("+Ap1[0B|1]@Ap", "Ap", "1");
    left("+Ap1@Bq@Cr", "Bq", "1");
    left("+Ap1@Bq@Cr", "Cr", "1");
    left("(-Ap1@Bq;+Cs1)@Cr", "Bq", "+Cs1@Cr");
    left("+Ap1@Bq", ".", "+Ap0@Bq");
    left("+Ap0@Bq", ".", "0A");
    left("+Ap1@Bq", "Ap", "1");
    left("-Ap1@Bq", "Ap", "0A");
    left("+Ap1@Bq", "BpAq", "+Ap1@Bq");
    left("(+Ap1&+Aq2)@Cs", ".", "(+Ap0&+Aq1)@Cs");
    // the day is no EVENT of a TILL, nor does it count for what is not there any more
    left("+Ap3@Cs;+Bq1", "Cs.", "+Bq0");
  }

  private static void states() {
    Checks.quote(0, "STATE: 0 OPEN, 1 DONE, 2 and the PARTY: BROKEN.");
    String[] texts = {"+Ap0", "1", "0A", "0B", "0C"};
    int[] due = {0, 1, 2, 3, 4};
    for (int i = 0; i < 5; i++) {
      Checks.same("state of " + texts[i], Checks.hall(texts[i]).ofContract(0, 0), due[i]);
      Clausekeep hall = Checks.hall("~Ap0[" + texts[i] + "|+Bq1]");
      Checks.same("state by an act", hall.act(0, 0, 0), due[i]);
      hall = Checks.hall("~Ap0[+Bq1|" + texts[i] + "]");
      Checks.same("days to " + texts[i], hall.days(0, 1), 1);
      Checks.same("state by a day", hall.ofContract(0, 0), due[i]);
    }
  }

  // ---- NOW

  private static void nowOutsideOfEnds() {
    Checks.quote(0, "NOW are the DUTIES that stand in it outside of ENDS, and not behind a \";\":");
    String[] texts = {"1", "0B", "+Ap1[+Bq1|+Cr1]", "+Ap1;+Bq1", "(+Ap1;+Bq1)&(+Cr1;+Cs1)", "(+Ap1;+Bq1)@Cs/-As0[1|+Bq9]",
        "+Ap1;+Ap2", "+Ap1&+Aq1;+Ar1"};
    String[] due = {"", "", "+Ap1", "+Ap1", "+Ap1 +Cr1", "+Ap1 -As0", "+Ap1", "+Ap1 +Aq1"};
    for (int i = 0; i < texts.length; i++) {
      Clausekeep hall = Checks.hall(texts[i]);
      Checks.same("duties of " + texts[i], hall.duties(0), due[i]);
      Checks.same("how many of " + texts[i], hall.ofContract(0, 5), (due[i].length() + 1) / 5);
    }
  }

  private static void nowOnce() {
    Checks.quote(0, "each TEXT without ENDS once, by TEXTS.");
    Clausekeep hall = Checks.hall("+Ap1&+Ap1[1|0B]&+Ap1@Bq", "~Ap0&-Ap0&+Ap0&+Bp0", "+Ap1/+Ap2&+Ap1/~Ap1");
    Checks.same("three alike", hall.duties(0), "+Ap1");
    Checks.same("how many of these", hall.ofContract(0, 5) * 10 + hall.ofContract(0, 6), 11);
    Checks.same("by texts", hall.duties(1), "+Ap0 +Bp0 -Ap0 ~Ap0");
    Checks.same("how many must", hall.ofContract(1, 5) * 10 + hall.ofContract(1, 6), 42);
    Checks.same("other days are another text", hall.duties(2), "+Ap1 +Ap2 ~Ap1");
    Checks.drawn(hall, 3, "+Cs9&+As9&-Cs0&-As9&~Cs0&~As9&-Bp9&+Bp9");
    Checks.same("all the signs", hall.duties(3), "+As9 +Bp9 +Cs9 -As9 -Bp9 -Cs0 ~As9 ~Cs0");
    Checks.drawn(hall, 3, "+Ap0&+Ap0[1|0B]&-Cs0/-Cs0[1|1]");
    Checks.same("once, with no days", hall.duties(3), "+Ap0 -Cs0");
    // by their own texts, whatever the texts of the PARTS are by which these stand
    Checks.drawn(hall, 3, "(+Bq1/~Cr1/-Cs1)&+Bq2&(+Ap1&~As9)@Cr");
    Checks.same("from several parts", hall.duties(3), "+Ap1 +Bq1 +Bq2 -Cs1 ~As9 ~Cr1");
    Checks.drawn(hall, 3, "(+Bq3;+Ap1)/(+Bq1;+Ap1)@Cr/+Bq2");
    Checks.same("from the first ones of several", hall.duties(3), "+Bq1 +Bq2 +Bq3");
  }

  // ---- what is HELD

  private static void heldAtFirst() {
    Checks.quote(0, "CONTRACTS 0 to 3, each a CLAUSE (DONE at first)");
    Clausekeep hall = new Clausekeep();
    for (int i = 0; i < 4; i++) {
      Checks.same("text at first", hall.text(i), "1");
      Checks.same("state at first", hall.ofContract(i, 0), 1);
      Checks.same("log at first", hall.log(i), "");
    }
    for (int i = 0; i < 4; i++) Checks.drawn(hall, i, "+Ap" + i);
    for (int i = 0; i < 4; i++) Checks.same("each one is another", hall.text(i), "+Ap" + i);
    hall.days(3, 2);
    Checks.same("a day for one alone", hall.text(2) + hall.text(3), "+Ap2+Ap1");
    Checks.same("a log for one alone", hall.log(2) + hall.log(3), "..");
  }

  private static void logOfEach() {
    Checks.quote(0, "and a LOG: the ROW of what came to it since it was TOLD last");
    Clausekeep hall = Checks.hall("~Ap9", "~Ap9");
    hall.act(0, 1, 2);
    hall.days(0, 3);
    hall.act(1, 0, 0);
    hall.act(1, 0, 0);
    Checks.run(hall, 0, "Cs.Ap.");
    hall.days(0, 1);
    Checks.same("what came", hall.log(0), "Br...Cs.Ap");
    Checks.same("what came to the other one", hall.log(1), "Ap");
    Checks.same("how many events", hall.ofContract(0, 4) * 10 + hall.ofContract(1, 4), 71);
  }

  private static void logIsEmptyThen() {
    Checks.quote(0, "(drawn, joined, transferred or waived: the LOG is empty then)");
    Clausekeep hall = Checks.hall("+Ap9&+Bq9&+Cr9", "+Ap9&+Bq9&+Cr9", "+Ap9&+Bq9&+Cr9", "+Ap9&+Bq9&+Cr9");
    for (int i = 0; i < 4; i++) {
      hall.act(i, 0, 3);
      hall.days(i, 2);
    }
    Checks.drawn(hall, 0, "+Ap5");
    hall.join(1, 2, 1, 1);
    hall.transfer(2, 0, 0);
    hall.waive(3, 2);
    for (int i = 0; i < 4; i++) {
      Checks.same("the log then", hall.log(i), "");
      Checks.same("how many events then", hall.ofContract(i, 4), 0);
      Checks.same("what it was told as", hall.told(i), hall.text(i));
    }
    hall.days(2, 1);
    Checks.same("a log anew", hall.log(2), ".");
    Checks.same("what it was told as then", hall.told(2), "+Ap7&+Bq7&+Cr7");
    // 5 can be undone: the row anew, and what told each one
    for (int i = 0; i < 5; i++) hall.undo();
    for (int i = 0; i < 4; i++) Checks.same("the log before", hall.log(i), "As..");
  }

  // ---- MONEY

  private static void worthsAtFirst() {
    Checks.quote(0, "MONEY: each ACT of a PARTY has a WORTH for each PARTY (0 at first).");
    Clausekeep hall = Checks.hall("~Ap9");
    for (int i = 0; i < 36; i++) {
      Checks.same("worth at first", hall.worth(i / 12, i / 3 % 4, i % 3, i + 1), 0);
    }
    for (int i = 0; i < 36; i++) {
      Checks.same("each worth is another one", hall.worth(i / 12, i / 3 % 4, i % 3, 0), i + 1);
    }
  }

  private static void accounts() {
    Checks.quote(0, "As an ACT comes to an OPEN CONTRACT, the ACCOUNT of each PARTY (0 at first) grows by its WORTH.");
    Clausekeep hall = Checks.hall("~Ap9[1|1]", "0B");
    for (int party = 0; party < 3; party++) Checks.same("account at first", hall.account(party), 0);
    for (int i = 0; i < 36; i++) hall.worth(i / 12, i / 3 % 4, i % 3, i == 0 ? 99 : i == 35 ? -99 : i);
    for (int i = 35; i >= 0; i -= 3) {
      int before = hall.account(0);
      hall.act(0, i / 12, i / 3 % 4);
      int due = i - 2 == 0 ? 99 : i - 2;
      Checks.same("what A gets by " + i / 3, hall.account(0) - before, due);
    }
    // of 0 to 33, 1 to 34 and 2 to 35, by threes, with 99 for 0 and -99 for 35
    int[] due = {297, 210, 88};
    for (int party = 0; party < 3; party++) Checks.same("account of all acts", hall.account(party), due[party]);
    Checks.same("it is done", hall.ofContract(0, 0), 1);
    Checks.same("an act when it is done", hall.act(0, 0, 0), -9);
    Checks.same("an act when it is broken", hall.act(1, 0, 0), -9);
    Checks.run(hall, 0, "ApApAp");
    Checks.run(hall, 1, "ApApAp");
    for (int party = 0; party < 3; party++) Checks.same("account of no act", hall.account(party), due[party]);
    Checks.drawn(hall, 0, "~Ap1");
    hall.days(0, 1);
    Checks.same("account by a day", hall.account(0), 297);
    Checks.run(hall, 0, "CsApCs");
    Checks.same("by an act, one that is its last one, and none behind", hall.account(2), 88 - 99 + 2);
  }

  private static void fineByEvents() {
    Checks.quote(0, "FINE (0 at first): as a CONTRACT becomes BROKEN by an EVENT, the ACCOUNT of the one that broke it is FINE"
        + " less.");
    Clausekeep hall = Checks.hall("+Ap0", "-Bq3", "~Ap1[0C|1]", "+Ap0[1|0B]");
    Checks.same("fine at first", hall.house(4), 0);
    hall.days(0, 1);
    Checks.same("account with no fine", hall.account(0), 0);
    Checks.same("fine at first, told", hall.fine(99), 0);
    hall.act(1, 1, 1);
    Checks.same("by an act", hall.account(1), -99);
    hall.act(2, 0, 0);
    Checks.same("not the one that did it", hall.account(0), 0);
    Checks.same("but the one that broke it", hall.account(2), -99);
    hall.days(3, 9);
    Checks.same("by a day, once", hall.account(1), -198);
    hall.undo();
    Checks.same("before that day", hall.account(1), -99);
    Checks.run(hall, 3, "Cs..");
    Checks.same("by a row, once", hall.account(1), -198);
    hall.worth(0, 0, 0, 50);
    Checks.drawn(hall, 0, "-Ap1");
    hall.act(0, 0, 0);
    Checks.same("worth and fine by one act", hall.account(0), -49);
  }

  private static void fineWithoutEvents() {
    Checks.quote(0, "as a CONTRACT becomes BROKEN by an EVENT");
    Clausekeep hall = Checks.hall("0B", "+Ap1", "+Ap1;+Bq1");
    hall.fine(40);
    Checks.drawn(hall, 3, "0C");
    hall.join(0, 1, 1, 0);
    hall.transfer(0, 1, 0);
    hall.days(0, 3);
    hall.act(0, 1, 1);
    hall.days(2, 1);
    hall.act(2, 0, 0);
    for (int party = 0; party < 3; party++) Checks.same("account without a breach", hall.account(party), 0);
    hall.fine(0);
    hall.days(2, 2);
    Checks.same("it is broken", hall.ofContract(2, 0), 3);
    Checks.same("a fine of 0", hall.account(1), 0);
  }
}
