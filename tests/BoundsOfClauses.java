/** The boundary cases of section 1 of the document: clauses, as they are read, made NORMAL and told again. */
final class BoundsOfClauses {
  private static final String UNIT_SIGNS = "01234+~-#(";

  private BoundsOfClauses() {
  }

  static void check() {
    numbers();
    smallestNumber();
    orderOfTexts();
    partiesActsDays();
    usualEnds();
    joints();
    unitsOfNames();
    unitsOften();
    openBrackets();
    tills();
    normalBoth();
    normalEither();
    normalBehindAndTill();
    brackets();
    sizes();
    greatWhole();
    greatUnits();
    greatRows();
    notGreat();
    faultAtEachSign();
    faultAtTheEnd();
    faultOfNames();
  }

  private static void read(Clausekeep hall, String text, String due) {
    hall.wipe();
    Checks.type(hall, text);
    Checks.same("the clause of " + text, hall.paper(true), due);
  }

  private static void read(String text, String due) {
    read(new Clausekeep(), text, due);
  }

  private static void fault(Clausekeep hall, String text, int due) {
    hall.wipe();
    Checks.type(hall, text);
    Checks.same("fault of \"" + text + "\"", hall.fault(), due);
  }

  private static void fault(String text, int due) {
    fault(new Clausekeep(), text, due);
  }

  // ---- numbers and texts

  private static void numbers() {
    Checks.quote(0, "Whole numbers. NONE is -1.");
    Clausekeep hall = Checks.hall("~Ap1");
    Checks.same("say of NONE", hall.say(-1, -1, -1, -1, -1, -1), 0);
    Checks.same("due without one", hall.due(0, 0, 0), -1);
    Checks.type(hall, "1");
    Checks.same("fault without one", hall.fault(), -1);
  }

  private static void smallestNumber() {
    Checks.quote(0, "X by X is by rising numbers; where one of several is taken and nothing else is said, it is that with the"
        + " smallest number.");
    read("0C&0A&0B", "0A");
    read("0C/0B", "0B");
    Clausekeep hall = Checks.hall("+Cp0&+Bp0&+As9", "~Cp1/~Bs1/~Bq1/~Cq1");
    hall.days(0, 1);
    Checks.same("broken by two at once", hall.text(0), "0B");
    Checks.same("the first one of several ways", hall.way(1, 1), "Bq");
    // whichever was kept first, its sum goes on by the smaller name
    Checks.kept(hall, 4, "0A");
    Checks.kept(hall, 2, "1");
    Clausekeep other = Checks.hall("+Cp0&+Bp0&+As9", "~Cp1/~Bs1/~Bq1/~Cq1");
    other.days(0, 1);
    Checks.kept(other, 2, "1");
    Checks.kept(other, 4, "0A");
    Checks.same("name by name", hall.digest(), other.digest());
  }

  private static void orderOfTexts() {
    Checks.quote(0, "TEXTS are ordered sign by sign by the signs' codes, a beginning ahead of what goes on.");
    read("+Ap1[0B|1]&+Ap1", "+Ap1&+Ap1[0B|1]");
    read("+Ap1[1|0B]/+Ap1[1|0B;1@Ap]/+Ap1", "+Ap1/+Ap1[1|0B]");
    read("~Ap1&-Ap1&+Ap1&(+Ap1&+Bq1)@Cr", "(+Ap1&+Bq1)@Cr&+Ap1&-Ap1&~Ap1");
    read("+Ap1[1|1]/+Ap1@Bq/(+Ap1;+Bq1)/+Ap1", "+Ap1/(+Ap1;+Bq1)/+Ap1@Bq/+Ap1[1|1]");
    read("(+Ap1;+Bq1)/+Ap1&+Bq1/+Ap1", "+Ap1/+Ap1&+Bq1/(+Ap1;+Bq1)");
    read("(+Ap1;+Bq1)&(+Ap1/+Bq1)&+Ap1", "+Ap1&(+Ap1/+Bq1)&(+Ap1;+Bq1)");
    read("+Cp0&+As9&+Ap9&+Bp0&+Ar0&+Ap0", "+Ap0&+Ap9&+Ar0&+As9&+Bp0&+Cp0");
    read("+Ap1[1|0C]&+Ap1[1|0B]&+Ap1[0A|1]", "+Ap1[0A|1]&+Ap1[1|0B]&+Ap1[1|0C]");
    read("+Ap1@Bq@Cr&+Ap1@Bq", "+Ap1@Bq&+Ap1@Bq@Cr");
    // sorted by their texts alone, not by the brackets that they get
    read("(+Bq1;+Cr1)&+Cs1&(+Ap1/+Ap0)", "(+Ap0/+Ap1)&(+Bq1;+Cr1)&+Cs1");
  }

  private static void partiesActsDays() {
    Checks.quote(0, "PARTIES are 0 to 2 (\"A\" to \"C\"), ACTS 0 to 3 (\"p\" to \"s\").");
    for (int i = 0; i < 12; i++) {
      String event = "" + "ABC".charAt(i / 4) + "pqrs".charAt(i % 4);
      Clausekeep hall = Checks.hall("+" + event + "0");
      for (int k = 0; k < 12; k++) {
        if (k != i) Checks.same(k + " comes to " + event, hall.act(0, k / 4, k % 4), 0);
      }
      Checks.same(i + " comes to " + event, hall.act(0, i / 4, i % 4), 1);
    }
    Checks.quote(0, "a PARTY, an ACT, DAYS (0 to 9), and two ENDS, CLAUSES: what follows if the PARTY does that ACT, and"
        + " what follows if so many days and one more went by without it");
    for (int days = 0; days <= 9; days++) {
      Clausekeep hall = Checks.hall("+Ap" + days + "[+Bq1|+Cr1]");
      if (days > 0) Checks.same("so many days", hall.days(0, days), days);
      Checks.same("after so many days", hall.text(0), "+Ap0[+Bq1|+Cr1]");
      hall.days(0, 1);
      Checks.same("after one more", hall.text(0), "+Cr1");
      hall.undo();
      hall.act(0, 0, 0);
      Checks.same("done on the last day", hall.text(0), "+Bq1");
    }
  }

  private static void usualEnds() {
    Checks.quote(0, "Without that they are, with \"+\" DONE and BROKEN by the PARTY, with \"~\" DONE and DONE, with \"-\""
        + " BROKEN by the PARTY and DONE.");
    for (int party = 0; party < 3; party++) {
      char letter = "ABC".charAt(party);
      int[] byAct = {1, 1, 2 + party};
      int[] byDay = {2 + party, 1, 1};
      String[] ends = {"[1|0" + letter + "]", "[1|1]", "[0" + letter + "|1]"};
      for (int sign = 0; sign < 3; sign++) {
        String duty = "" + "+~-".charAt(sign) + letter + "p0";
        Clausekeep hall = Checks.hall(duty, duty);
        Checks.same("state of " + duty + " by its act", hall.act(0, party, 0), byAct[sign]);
        hall.days(1, 1);
        Checks.same("state of " + duty + " by a day", hall.ofContract(1, 0), byDay[sign]);
        for (int i = 0; i < 3; i++) read(duty + ends[i], i == sign ? duty : duty + ends[i]);
      }
    }
    Checks.quote(0, "are there, if they are not those that come without.");
    read("+Ap1[1|0B]", "+Ap1[1|0B]");
    read("+Bp1[1|0A]", "+Bp1[1|0A]");
    read("-Cp1[0A|1]", "-Cp1[0A|1]");
    read("+Ap1[+Bq1;0A|1@Bq&0A/0A]", "+Ap1[+Bq1;0A|0A]");
    read("+Ap1[1/0A|1&0A]", "+Ap1");
  }

  // ---- units and what stands between

  private static void joints() {
    Checks.quote(0, "BOTH: two or more PARTS with \"&\" between.");
    Clausekeep hall = Checks.hall("+Ap1&+Aq1", "+Ap1&+Aq1&+Ar1&+As1&+Bp1&+Bq1&+Br1&+Bs1");
    Checks.same("both of two", hall.ofContract(0, 2) * 10 + hall.ofContract(0, 3), 22);
    Checks.same("both of eight", hall.ofContract(1, 2) * 10 + hall.ofContract(1, 3), 28);
    Checks.quote(0, "EITHER: two or more with \"/\" between.");
    hall = Checks.hall("+Ap1/+Aq1", "+Ap1/+Aq1/+Ar1/+As1/+Bp1/+Bq1/+Br1/+Bs1");
    Checks.same("either of two", hall.ofContract(0, 2) * 10 + hall.ofContract(0, 3), 32);
    Checks.same("either of eight", hall.ofContract(1, 2) * 10 + hall.ofContract(1, 3), 38);
    Checks.quote(0, "BEHIND: two, with \";\" between: the second one comes as the first one is DONE.");
    hall = Checks.hall("~Ap0;+Ap0", "~Ap0;+Ap0", "+Ap1;+Aq1;+Ar1;+As1;+Bp1;+Bq1;+Br1;+Bs1");
    Checks.same("eight in a row", hall.ofContract(2, 2) * 10 + hall.ofContract(2, 3), 42);
    hall.act(0, 0, 0);
    Checks.same("one act does not count for both", hall.text(0), "+Ap0");
    hall.days(1, 1);
    Checks.same("one day does not count for both", hall.text(1), "+Ap0");
    Checks.quote(0, "then \"&\" binds closest, then \"/\", then \";\".");
    read("+Ap1;+Aq1/+Ar1&+As1", "+Ap1;+Aq1/+Ar1&+As1");
    read("+Ar1&+As1/+Aq1;+Ap1", "+Aq1/+Ar1&+As1;+Ap1");
    read("+As1&((+Ap1;+Aq1)/+Ar1)", "((+Ap1;+Aq1)/+Ar1)&+As1");
  }

  private static void unitsOfNames() {
    Checks.quote(0, "\"#\" and a digit 0 to 5 (the CLAUSE of that NAME, as it is then)");
    Clausekeep hall = new Clausekeep();
    for (int i = 0; i < 6; i++) Checks.kept(hall, i, "+Ap" + i);
    for (int i = 0; i < 6; i++) read(hall, "#" + i, "+Ap" + i);
    for (int i = 6; i < 10; i++) fault(hall, "#" + i, 1);
    Checks.drawn(hall, 0, "#0;#1");
    Checks.kept(hall, 2, "#0&#1");
    Checks.kept(hall, 0, "+Bq9");
    hall.unname(1);
    Checks.same("a contract by names that are others", hall.text(0), "+Ap0;+Ap1");
    read(hall, "#2/#0", "+Ap0&+Ap1/+Bq9");
    Checks.quote(0, "No \"#\" and no \"*\" stand in it.");
    read(hall, "2*#2", "+Ap0&+Ap1;+Ap0&+Ap1");
  }

  private static void unitsOften() {
    Checks.quote(0, "or a digit 2 to 4, \"*\" and one of those ahead of this (that one so often, with \";\" between)");
    read("2*+Ap1", "+Ap1;+Ap1");
    read("3*+Ap1", "+Ap1;+Ap1;+Ap1");
    read("4*+Ap1", "+Ap1;+Ap1;+Ap1;+Ap1");
    read("2*1", "1");
    read("4*0C", "0C");
    read("3*(+Ap1;0B)", "+Ap1;0B");
    read("2*(+Ap1/+Bq1)", "+Ap1/+Bq1;+Ap1/+Bq1");
    read("2*+Ap1[1|0C]@Bq", "(+Ap1[1|0C];+Ap1[1|0C])@Bq");
    fault("0*1", 1);
    fault("1*1", 1);
    for (int digit = 5; digit <= 9; digit++) fault(digit + "*1", 0);
    for (int digit = 2; digit <= 4; digit++) fault("2*" + digit + "*1", 2);
    fault("3*(2*1)", -1);
    fault("2+Ap1", 1);
  }

  private static void openBrackets() {
    Checks.quote(0, "At most 5 \"(\" and \"[\" of the text are open at a time.");
    fault("(((((1)))))", -1);
    fault("((((((1))))))", 5);
    fault("((((+Ap1[1|1]))))", -1);
    fault("(((((+Ap1[1|1])))))", 9);
    fault("+Ap1[+Ap1[+Ap1[+Ap1[+Ap1[1", 26);
    fault("+Ap1[+Ap1[+Ap1[+Ap1[+Ap1[+Ap1[1", 29);
    fault("+Ap1[+Ap1[+Ap1[+Ap1[+Ap1[(", 25);
    fault("+Ap1[((((1))))|((((1))))]", -1);
    fault("+Ap1[(((((1)))))|1]", 9);
    fault("+Ap1[1|(((((1)))))]", 11);
    fault("+Ap1[+Ap1[1|1]|+Ap1[1|(((1)))]]", -1);
    fault("+Ap1[+Ap1[1|1]|+Ap1[1|((((1))))]]", 25);
    fault("(1)&(1)&(1)&(1)&(1)&(1)&(1)", -1);
    fault("(((((1)))))@Ap;((((+Bq1[1|1]))))", -1);
    fault("4*(3*(2*(4*((1)))))", -1);
    fault("4*(3*(2*(4*((2*(", 15);
    Clausekeep hall = new Clausekeep();
    Checks.kept(hall, 0, "(((+Ap1[(~Aq1/-Aq1)@Ap|1]&+Bq1)@Br&1))");
    read(hall, "(((((#0)))))", "(+Ap1[(-Aq1/~Aq1)@Ap|1]&+Bq1)@Br");
    Checks.kept(hall, 0, "-Cs1[+Cr1[#0|1]|1]");
    read(hall, "+Ap1[((((#0))))|1]", "+Ap1[-Cs1[+Cr1[(+Ap1[(-Aq1/~Aq1)@Ap|1]&+Bq1)@Br|1]|1]|1]");
    // what has more open by its names goes on as any other one
    Checks.same("drawn by names", hall.draw(0), 56);
    hall.act(0, 0, 0);
    hall.act(0, 2, 3);
    hall.act(0, 2, 2);
    Checks.same("what is left of it", hall.text(0), "(+Ap1[(-Aq1/~Aq1)@Ap|1]&+Bq1)@Br");
  }

  private static void tills() {
    Checks.quote(0, "Behind a UNIT may stand \"@\", a PARTY and an ACT, again and again;");
    read("+Ap1" + Checks.times("@Bq", 12), "+Ap1" + Checks.times("@Bq", 12));
    read("1" + Checks.times("@Bq", 13), "1");
    read("(+Ap1&+Bp1)@Cs@Cs&+Ap1@As", "(+Ap1&+Bp1)@Cs@Cs&+Ap1@As");
    read("+Ap1[1|1]@As&+Bp1", "+Ap1[1|1]@As&+Bp1");
    read("2*+Ap1@Cs@Cr", "(+Ap1;+Ap1)@Cs@Cr");
    Checks.quote(0, "it holds till that PARTY does that ACT.");
    Clausekeep hall = Checks.hall("-Ap9@Bq@Cr");
    for (int i = 1; i < 12; i++) {
      if (i != 5 && i != 10) Checks.same(i + " comes to \"till\"", hall.act(0, i / 4, i % 4), 0);
    }
    Checks.same("the second one comes", hall.act(0, 2, 2), 1);
    hall.undo();
    Checks.same("the first one comes", hall.act(0, 1, 1), 1);
  }

  // ---- NORMAL clauses

  private static void normalBoth() {
    Checks.quote(0, "BOTH: PARTS that are BOTH give their PARTS; DONE ones go; of like TEXTS one stays; PARTS stand by their"
        + " TEXTS.");
    read("(+Ap1&+Cr1)&(+Bq1&(+Ap1&+Bp1))", "+Ap1&+Bp1&+Bq1&+Cr1");
    read("1&+Ap1&1&+Bq1&1", "+Ap1&+Bq1");
    read("+Ap1&+Ap1[1|0A]&+Ap1&+Bq1", "+Ap1&+Bq1");
    Checks.quote(0, "Without PARTS it is DONE, with one it is that.");
    read("1&1", "1");
    read("1&+Ap1", "+Ap1");
    read("+Ap1&+Ap1&+Ap1", "+Ap1");
    read("(+Ap1;+Bq1)&1", "+Ap1;+Bq1");
    Checks.quote(0, "If one is BROKEN, all is, by the smallest PARTY of those that are.");
    read("+Ap1&0C&+Bq1", "0C");
    read("0C&0B", "0B");
    read("0B&0C&0A", "0A");
    read("1&0C", "0C");
    read("(0C&0B)&+Ap1/0A", "0A");
  }

  private static void normalEither() {
    Checks.quote(0, "EITHER: PARTS that are EITHER give their PARTS; if one is DONE, all is;");
    read("(+Ap1/+Cr1)/(+Bq1/(+Ap1/+Bp1))", "+Ap1/+Bp1/+Bq1/+Cr1");
    read("+Ap1/1", "1");
    read("0A/1/0B", "1");
    Checks.quote(0, "BROKEN ones go, but if all are, it is BROKEN by the smallest PARTY of these; of like TEXTS one stays;");
    read("0A/+Bq1/0C/+Ap1", "+Ap1/+Bq1");
    read("0C/0B", "0B");
    read("0B/0C/0A", "0A");
    read("+Ap1/+Bq1/+Ap1", "+Ap1/+Bq1");
    Checks.quote(0, "PARTS stand by their TEXTS; with one it is that.");
    read("0A/+Ap1&+Bq1", "+Ap1&+Bq1");
    read("+Bq1/+Bq1", "+Bq1");
    read("+Cr1/+Bq1/+Ap1", "+Ap1/+Bq1/+Cr1");
  }

  private static void normalBehindAndTill() {
    Checks.quote(0, "BEHIND: with a DONE first one it is the second one, with a BROKEN first one that; with a DONE second one"
        + " it is the first one; if the first one is a BEHIND, it is its first one, with the rest behind (grouped to the"
        + " right).");
    read("1;+Ap1", "+Ap1");
    read("1;1", "1");
    read("1;0B", "0B");
    read("0B;1", "0B");
    read("0B;0A", "0B");
    read("0B;+Ap1;+Bq1", "0B");
    read("+Ap1;1", "+Ap1");
    read("+Ap1;0B", "+Ap1;0B");
    read("+Ap1;1;0B;+Cr1", "+Ap1;0B");
    read("(+Ap1;0B);+Cr1", "+Ap1;0B");
    read("((+Ap1;+Bq1);(+Cr1;+As1));+Ap1", "+Ap1;+Bq1;+Cr1;+As1;+Ap1");
    read("+Ap1;+Ap1;+Ap1", "+Ap1;+Ap1;+Ap1");
    Checks.quote(0, "TILL: of a DONE or BROKEN one it is that.");
    read("1@Ap", "1");
    read("0C@Ap@Cs", "0C");
    read("(+Ap1/1)@Bq", "1");
    read("(+Ap1&0B)@Bq;+Ap1", "0B");
  }

  private static void brackets() {
    Checks.quote(0, "around a PART of BOTH that is EITHER or BEHIND, a PART of EITHER that is BEHIND, around what stands ahead"
        + " of \"@\" if it is BOTH, EITHER or BEHIND (nowhere else)");
    read("+Ap1&(+Bq1/+Br1)", "+Ap1&(+Bq1/+Br1)");
    read("+Ap1&(+Bq1;+Br1)", "+Ap1&(+Bq1;+Br1)");
    read("+Ap1/(+Bq1;+Br1)", "+Ap1/(+Bq1;+Br1)");
    read("(+Ap1&+Aq1)@Bq", "(+Ap1&+Aq1)@Bq");
    read("(+Ap1/+Aq1)@Bq", "(+Ap1/+Aq1)@Bq");
    read("(+Ap1;+Aq1)@Bq", "(+Ap1;+Aq1)@Bq");
    read("+Ap1/(+Bq1&+Br1)", "+Ap1/+Bq1&+Br1");
    read("(+Ap1/+Bq1);(+Ap1&+Bq1)", "+Ap1/+Bq1;+Ap1&+Bq1");
    read("(+Ap1@Bq)&(+Ap1)", "+Ap1&+Ap1@Bq");
    read("(+Ap1@Bq)@Cr", "+Ap1@Bq@Cr");
    read("(+Ap1[1|1])@Bq", "+Ap1[1|1]@Bq");
    read("+Ap1[(+Bq1/+Br1)|(+Bq1&(+Br1;+Cs1))]", "+Ap1[+Bq1/+Br1|+Bq1&(+Br1;+Cs1)]");
    read("(((+Ap1;+Aq1)))@Bq&((+Cr1)/+Bq1)", "(+Ap1;+Aq1)@Bq&(+Bq1/+Cr1)");
  }

  private static void sizes() {
    Checks.quote(0, "SIZE: how many signs its TEXT has.");
    String[] texts = {"1", "0A", "+Ap1", "+Ap1[1|1]", "+Ap1&(+Bq1/+Br1)", "(+Ap1/+Aq1)@Bq"};
    for (String text : texts) {
      Clausekeep hall = Checks.typed(text);
      Checks.same("size by draw of " + text, hall.draw(0), text.length());
      Checks.same("size of " + text, hall.ofContract(0, 1), text.length());
      Checks.type(hall, text);
      Checks.same("size by name of " + text, hall.name(0), text.length());
    }
    for (int size = 24; size <= 60; size++) {
      Clausekeep hall = Checks.typed(Checks.rowOfSize("+Ap1", size));
      Checks.same("size of a row", hall.draw(0), size);
      Checks.same("the length of its text", hall.text(0).length(), size);
    }
  }

  // ---- GREAT

  private static void greatWhole() {
    Checks.quote(0, "A text is GREAT, if the CLAUSE,");
    for (int size = 58; size <= 62; size++) {
      String text = Checks.rowOfSize("+Ap1", size);
      Clausekeep hall = Checks.typed(text);
      Checks.same("fault of a row of " + size, hall.fault(), -1);
      Checks.same("whether a row of " + size + " is told", hall.paper(true).equals("!"), size > 60);
      if (size > 60) {
        Checks.minusNine(hall, "draw of a row of " + size, () -> hall.draw(0));
        Checks.minusNine(hall, "name of a row of " + size, () -> hall.name(0));
      } else {
        Checks.same("draw of a row of " + size, hall.draw(0), size);
        Checks.type(hall, text);
        Checks.same("name of a row of " + size, hall.name(0), size);
      }
    }
  }

  /** Names with so many signs: with them the text is told as it is due, with one sign more in "#1" it is GREAT. */
  private static void great(String text, int first, int second, String due) {
    for (int size = second; size <= second + 1; size++) {
      Clausekeep hall = new Clausekeep();
      if (first > 0) Checks.kept(hall, 0, Checks.rowOfSize("+Ap1", first));
      Checks.kept(hall, 1, Checks.rowOfSize("+Bp1", size));
      read(hall, text, size == second ? due : "!");
      Checks.same("fault of " + text, hall.fault(), -1);
      Checks.same("draw of " + text, hall.draw(0), size == second ? due.length() : -9);
    }
  }

  private static void greatUnits() {
    Checks.quote(0, "or one that is read for it (a UNIT, with all its \"@\", too;");
    // a DUTY with two ENDS has 7 signs beside them, a TILL 5 beside a row
    great("0A&+Cr1[#0|#1]", 29, 24, "0A");
    great("0A&+Cr1[#1|#0]", 29, 24, "0A");
    great("0A&#1@Cr", 0, 55, "0A");
    great("0A&(#1)@Cr", 0, 55, "0A");
    great("0C;#1@Cr@Cs", 0, 52, "0C");
    // twice a row of 29 has 59 signs
    great("0B&2*#1", 0, 29, "0B");
    great("0B&3*#1", 0, 19, "0B");
    great("0B&4*#1", 0, 14, "0B");
    great("1/2*#1@Cr", 0, 27, "1");
    great("1/2*#1@Cr@Cr", 0, 25, "1");
    great("+Cr1[1|1/2*#1]", 0, 29, "+Cr1[1|1]");
    great("-Cr1[0A&2*#1|1]", 0, 29, "-Cr1[0A|1]");
  }

  private static void greatRows() {
    Checks.quote(0, "a whole row of \"&\", of \"/\", of \";\"), has a SIZE above 60.");
    great("1/#0&#1", 29, 26, "1");
    great("0C;#0/#1", 29, 26, "0C");
    great("0C;#0&#1", 29, 26, "0C");
    great("0B&(#0;#1)", 29, 30, "0B");
    great("1/(#0/#1)", 29, 26, "1");
    great("+Cr1[0A&(#0;#1)|1]", 29, 30, "+Cr1[0A|1]");
    great("~Cr1[1|0A&(#0;#1)]", 29, 30, "~Cr1[1|0A]");
    great("(0A&(#0;#1))@Cr", 29, 30, "0A");
    great("2*(0A&(#0;#1))", 29, 30, "0A");
    great("0A&(0B&(0C&(#0;#1)))", 29, 30, "0A");
  }

  private static void notGreat() {
    Checks.quote(0, "a whole row of \"&\", of \"/\", of \";\"");
    Clausekeep hall = new Clausekeep();
    Checks.kept(hall, 0, Checks.rowOfSize("+Ap1", 60));
    Checks.kept(hall, 1, Checks.rowOfSize("+Bp1", 60));
    read(hall, "#0&#0&#0", "+Ap1@Bq@Bq" + Checks.times(";+Ap1", 10));
    read(hall, "0C;#0;#1", "0C");
    read(hall, "#0&#1&0C", "0C");
    read(hall, "#0/#1/1", "1");
    read(hall, "#0&#0&1", hall.named(0));
    read(hall, "0A/#1/#1", hall.named(1));
    read(hall, "#0&0A&#1/#0&0B&#1", "0A");
    read(hall, "#0&#1", "!");
    read(hall, "#0/#1", "!");
    read(hall, "#0;#1", "!");
    read(hall, "#0@Cr", "!");
    read(hall, "(#0&#1)&0C", "!");
  }

  // ---- FAULTS

  /** Behind that beginning stand these signs and no others. */
  private static void goesOn(String text, String signs) {
    for (char sign : Checks.SIGNS.toCharArray()) {
      Clausekeep hall = new Clausekeep();
      Checks.kept(hall, 0, "+Ap1");
      Checks.kept(hall, 5, "+Ap1");
      Checks.type(hall, text + sign);
      boolean isRefused = hall.fault() == text.length();
      Checks.same("whether " + sign + " may stand behind \"" + text + "\"", !isRefused, signs.indexOf(sign) >= 0);
      if (isRefused) Checks.same("\"" + text + sign + "\" as read", hall.paper(true), "!");
    }
  }

  private static void faultAtEachSign() {
    Checks.quote(19, "how many signs stand ahead of the first one with which no text of a CLAUSE begins as far as with it");
    fault("1", -1);
    String[] ahead = {"", "(", "((((", "1&", "1/", "1;", "(1;", "(1&", "+Ap1[", "+Ap1[1|", "+Ap1[1&", "#0;", "1&1/1;"};
    for (String text : ahead) goesOnOrStops(text, UNIT_SIGNS);
    for (String text : new String[] {"(((((", "+Ap1[((((", "(((((1;", "((((+Ap1[1|"}) goesOnOrStops(text, "01234+~-#");
    for (String text : new String[] {"2*", "3*", "(4*", "1&2*"}) goesOnOrStops(text, "01+~-#(");
    for (String text : new String[] {"0", "+", "~", "-", "1@", "(+", "1;0"}) goesOnOrStops(text, "ABC");
    for (String text : new String[] {"+A", "~B", "-C", "1@A", "1@Ap@C"}) goesOnOrStops(text, "pqrs");
    for (String text : new String[] {"+Ap", "-Cs"}) goesOnOrStops(text, "0123456789");
    for (String text : new String[] {"2", "3", "4", "1;2", "(3"}) goesOnOrStops(text, "*");
    for (String text : new String[] {"#", "2*#", "1&#"}) goesOnOrStops(text, "05");
    String[] ends = {"1", "0A", "#0", "1@Ap", "(1)", "+Ap1[1|1]", "2*1", "1&1", "1/1", "1;1", "2*+Ap1@Bq"};
    for (String text : ends) goesOn(text, "@&/;");
    for (String text : new String[] {"+Ap1", "-Cs9", "1&~Bq0", "2*+Ap1"}) goesOn(text, "[@&/;");
    for (String text : new String[] {"(1", "(1&1@Ap", "(+Ap1[1|1]", "(((((+Ap1"}) goesOn(text, "@&/;)");
    for (String text : new String[] {"(+Ap1", "((((~Ap0"}) goesOn(text, "[@&/;)");
    for (String text : new String[] {"+Ap1[1", "(+Ap1[(1)"}) goesOn(text, "@&/;|");
    for (String text : new String[] {"+Ap1[1|1", "(+Ap1[1|(1)"}) goesOn(text, "@&/;]");
    goesOn("+Ap1[+Bq1", "[@&/;|");
    goesOn("+Ap1[1|+Bq1", "[@&/;]");
  }

  private static void goesOnOrStops(String text, String signs) {
    goesOn(text, signs);
    Clausekeep hall = new Clausekeep();
    Checks.kept(hall, 0, "+Ap1");
    fault(hall, text, text.length());
  }

  private static void faultAtTheEnd() {
    Checks.quote(19, "(the length, if only its end is missed;");
    String whole = "2*(+Ap1[1@Bq|0C;#5]&1)@Cr/~As9;-Bq0[1|1]";
    Clausekeep hall = new Clausekeep();
    Checks.kept(hall, 5, "+Ap1");
    for (int length = 0; length <= 40; length++) {
      String text = whole.substring(0, length);
      hall.wipe();
      Checks.type(hall, text);
      // behind ")", "@Cr", "~As9", "-Bq0" and the last "]" it is a text
      boolean isWhole = length == 22 || length == 25 || length == 30 || length == 35 || length == 40;
      Checks.same("fault of \"" + text + "\"", hall.fault(), isWhole ? -1 : length);
      Checks.same("whether \"" + text + "\" is told", hall.paper(true).equals("!"), !isWhole);
    }
    fault("", 0);
    fault(Checks.times("1&", 20), 40);
    fault(Checks.times("1;", 19) + "(1", 40);
    Checks.quote(19, "NONE without a FAULT.");
    fault("1", -1);
    fault(Checks.times("1&", 19) + "0B", -1);
  }

  private static void faultOfNames() {
    Checks.quote(19, "a \"#\" with a digit by which nothing is kept has its FAULT at the digit)");
    fault("#", 1);
    for (int digit = 0; digit <= 9; digit++) fault("#" + digit, 1);
    fault("1;(#3;1)", 4);
    fault("+Ap1[#1|1]", 6);
    Clausekeep hall = new Clausekeep();
    Checks.kept(hall, 1, "+Ap1");
    fault(hall, "+Ap1[#1|1]", -1);
    fault(hall, "#1&#0&#1", 4);
    hall.unname(1);
    fault(hall, "+Ap1[#1|1]", 6);
    hall.undo();
    Checks.same("fault after undo", hall.fault(), -1);
    hall.undo();
    Checks.same("fault after undo of its name", hall.fault(), 6);
  }
}
