/** The boundary cases of section 3 of the document, and those of promises 29 to 39 (but for what is thrown). */
final class BoundsOfRows {
  /** With 30 that are REACHED (ten, ten and six of the duties, DONE, three BROKEN), and with one more. */
  private static final String THIRTY = "+Ap9;+Bq9;+Cr5";
  private static final String THIRTY_ONE = "+Ap9;+Bq9;+Cr6";

  private BoundsOfRows() {
  }

  static void check() {
    eventsOfOne();
    reachedByNone();
    order();
    reachedMany();
    foundBounds();
    clashIsBothNow();
    clashBounds();
    hopelessIsOpen();
    hopelessBounds();
    wayBounds();
    pairsMany();
    alikeBounds();
    apartBounds();
    bindsWhere();
    bindsBounds();
    leastParts();
    leastMany();
    sureWithoutTurns();
    sureOwn();
    sureOthers();
    sureWhileOpen();
    sureFine();
    sureOfTwoTurns();
  }

  // ---- what is REACHED

  private static void eventsOfOne() {
    Checks.quote(0, "EVENTS of a CLAUSE: all ACTS by their PARTIES that stand in its TEXT, by PARTIES, then by ACTS; then the"
        + " DAY.");
    String[] texts = {"1", "0C", "+Ap1", "+Ap1[+Ap2|-Ap3]", "+Ap1[1|-Bq1]@Cr;~Cs0", "+Ap1&+Aq1&+Ar1&+As1&+Bp1&+Bq1&+Br1&+Bs1",
        "+Ap1[1|0B]", "-Ap1[0C|0B]", "+Ap1;0B", "~Ap1[0A|0A]/+Bp1[0C|+Bq1;0A]"};
    int[] due = {1, 1, 2, 2, 5, 9, 2, 2, 2, 4};
    for (int i = 0; i < texts.length; i++) {
      Checks.same("events of " + texts[i], Checks.hall(texts[i]).ofContract(0, 7), due[i]);
    }
    Clausekeep hall = Checks.hall("+Ap1&+Aq1&+Ar1&+As1&+Bp1&+Bq1", "+Br1&+Bs1&+Cp1&+Cq1&+Cr1&+Cs1");
    hall.join(0, 1, 2, 0);
    Checks.same("all twelve acts and the day", hall.ofContract(2, 7), 13);
    // of ways with as many events, the first one found is by the first party's first act, and a day comes last
    hall = Checks.hall("~Cs0/~Bp0/~As0/~Aq0", "~Cs0/~Cp0/~Br0", "~Cs0/~Cq0");
    Checks.same("by parties, then by acts", hall.way(0, 1) + hall.way(1, 1) + hall.way(2, 1), "AqBrCq");
    Checks.same("a day comes last", Checks.hall("~Cs0").way(0, 1), "Cs");
    hall = Checks.hall("~Ap0[+Bq1|+Cr1]");
    Checks.same("in order", hall.found(0, 1) + " " + hall.found(0, 2), "+Bq1 +Cr1");
  }

  private static void reachedByNone() {
    Checks.quote(0, "REACHED are all CLAUSES that ROWS of these leave of it (itself by none).");
    for (String text : new String[] {"1", "0A", "+Ap0", "-Ap3&~Cs9"}) {
      Checks.same("the first one found of " + text, Checks.hall(text).found(0, 0), text);
    }
    Checks.same("reached of a done one", Checks.hall("1").reached(0), 1);
    Checks.same("reached of one that goes on", Checks.hall("+Ap0").reached(0), 3);
    Checks.same("way to itself", Checks.hall("+Ap0").way(0, 0), "");
  }

  private static void order() {
    Checks.quote(0, "They are found in ORDER: from the front of a queue, each one's EVENTS one by one; what is LEFT and was not"
        + " found yet comes behind all.");
    Clausekeep hall = Checks.hall("+Ap1&+Bq0", "+Cp9", "+Ap1&+Bq1");
    String[] due = {"+Ap1&+Bq0", "+Bq0", "+Ap1", "0B", "1", "+Ap0", "0A"};
    for (int i = 0; i < due.length; i++) Checks.same("found as " + i, hall.found(0, i), due[i]);
    Checks.same("how many", hall.reached(0), due.length);
    Checks.quote(0, "A ROW to the first CLAUSE found that is so: the EVENTS by which it was found, from the beginning on.");
    String[] rows = {"", "ApBq", "Bq..", ".", "-"};
    for (int state = 0; state <= 4; state++) Checks.same("way to " + state, hall.way(0, state), rows[state]);
    Checks.same("apart by a day", hall.apart(0, 2), ".");
    Checks.same("the longest row of days", hall.way(1, 4), "..........");
  }

  private static void reachedMany() {
    Checks.quote(0, "If there would be more than 30, there are TOO MANY.");
    for (int days = 0; days <= 9; days++) {
      Clausekeep hall = Checks.hall("+Ap9;+Bq9;+Cr" + days);
      Checks.same("reached with " + days + " days", hall.reached(0), days > 5 ? -9 : 25 + days);
    }
    Checks.quote(29, "Returns how many CLAUSES are REACHED; -9 with TOO MANY.");
    Checks.same("30", Checks.hall(THIRTY).reached(0), 30);
    Checks.same("31", Checks.hall(THIRTY_ONE).reached(0), -9);
    Checks.same("31 that are less by a day", Checks.run(Checks.hall(THIRTY_ONE), 0, "."), 1);
    Clausekeep hall = Checks.hall(THIRTY_ONE);
    hall.days(0, 1);
    Checks.same("after a day", hall.reached(0), 30);
    Checks.same("far more", Checks.hall("+Ap9&-Aq8&~Br7&+Bs6&-Cp5").reached(0), -9);
  }

  private static void foundBounds() {
    Clausekeep hall = Checks.hall(THIRTY, THIRTY_ONE, "0B");
    Checks.quote(30, "Returns TEXT of the REACHED CLAUSE that was found as that one, from 0 on;");
    Checks.same("the first one", hall.found(0, 0), THIRTY);
    Checks.same("the second one", hall.found(0, 1), "+Bq9;+Cr5");
    Checks.same("the third one", hall.found(0, 2), "+Ap8;+Bq9;+Cr5");
    Checks.same("the last one", hall.found(0, 29), "0B");
    Checks.same("of a broken one", hall.found(2, 0), "0B");
    Checks.quote(30, "\"-\" if there is none;");
    Checks.same("one behind the last one", hall.found(0, 30), "-");
    Checks.same("far behind", hall.found(0, Integer.MAX_VALUE), "-");
    Checks.same("behind the only one", hall.found(2, 1), "-");
    Checks.quote(30, "\"!\" with TOO MANY.");
    for (int nth : new int[] {0, 1, 29, 30, 31, Integer.MAX_VALUE}) {
      Checks.same("with too many " + nth, hall.found(1, nth), "!");
    }
  }

  // ---- CLASH, HOPELESS, ways

  private static void clash(String text, String due) {
    Checks.same("clash of " + text, Checks.hall(text).clash(0), due);
  }

  private static void clashIsBothNow() {
    Checks.quote(0, "CLASH: a \"+\" and a \"-\" DUTY of one PARTY and one ACT are both NOW.");
    clash("+As9&-As0", "");
    clash("+Cp9/-Cp0", "");
    clash("(+Bq1&+Bq2)@Bq/-Bq9", "");
    clash("+Ap1&-Bp1", "-");
    clash("+Ap1&-Aq1", "-");
    clash("+Ap1&~Ap1", "-");
    clash("~Ap1&-Ap1", "-");
    clash("+Ap1&+Ap2", "-");
    clash("+Ap1;-Ap1", "-");
    clash("+Ap1[-Ap1|1]", "-");
    clash("-Ap1[+Ap1|1]", "-");
    clash("+Ap1[-Ap1|1]&+Ap5", "-");
    clash("~Bq1[1|+Ap1]&-Ap9", "..");
    clash("~Bq1[+Ap1|1]&-Ap9", "Bq");
    clash("(~Bq1;-Ap1)&+Ap9", "Bq");
  }

  private static void clashBounds() {
    Checks.quote(31, "\"-\" without one;");
    clash("1", "-");
    clash(THIRTY, "-");
    Checks.quote(31, "Returns ROW to the first CLASH found;");
    // the clash is what was found as the 30th one
    clash("~Ap9;~Ap9;~Bq4;+Cr0&-Cr0", "ApApBq");
    clash("~Ap9[1|+Cr0&-Cr1]", "..........");
    Checks.quote(31, "\"!\" with TOO MANY.");
    clash(THIRTY_ONE, "!");
    // it clashes at once, which counts with 30 and not with more
    clash("+Ap9/-Ap9;+Bq9;+Cr6", "");
    clash("+Ap9/-Ap9;+Bq9;+Cr7", "!");
  }

  private static void hopeless(String text, String due) {
    Checks.same("hopeless of " + text, Checks.hall(text).hopeless(0), due);
  }

  private static void hopelessIsOpen() {
    Checks.quote(0, "HOPELESS: an OPEN CLAUSE from which no DONE one is REACHED.");
    hopeless("0A", "-");
    hopeless("1", "-");
    hopeless("+Ap0", "-");
    hopeless("+Ap0;0A", "");
    hopeless("~Ap0[0A|0B]", "");
    hopeless("+Ap1&-Ap1", "");
    hopeless("+Ap1&-Ap0", "-");
    hopeless("~Ap0[+Bq3&-Bq3|1]", "Ap");
    hopeless("~Ap1[1|+Bq3;0B]", "..");
    hopeless("(+Ap1;0A)@Bq", "-");
  }

  private static void hopelessBounds() {
    Checks.quote(32, "\"-\" without one;");
    hopeless(THIRTY, "-");
    Checks.quote(32, "Returns ROW to the first HOPELESS one found;");
    hopeless("+Ap9;+Bq9;+Cr4;0A", "");
    hopeless("~Ap9[1|+Bq9;0A]", "..........");
    hopeless("~Ap1[1|+Bq9;0A]&-Cr9", "..");
    Checks.quote(32, "\"!\" with TOO MANY.");
    hopeless(THIRTY_ONE, "!");
    hopeless("+Ap9;+Bq9;+Cr9;0A", "!");
  }

  private static void wayBounds() {
    Clausekeep hall = Checks.hall(THIRTY, THIRTY_ONE, "-Ap1", "0B");
    Checks.quote(33, "Returns ROW to the first one found that has it;");
    String[] due = {"", "ApBqCr", "..........", "Ap..........", "ApBq......"};
    for (int state = 0; state <= 4; state++) Checks.same("way to " + state, hall.way(0, state), due[state]);
    Checks.same("way of a broken one to itself", hall.way(3, 3), "");
    Checks.quote(33, "\"-\" without one;");
    Checks.same("way to another one's breach", hall.way(2, 3), "-");
    Checks.same("way of a broken one to an open one", hall.way(3, 0), "-");
    Checks.quote(33, "\"!\" with TOO MANY.");
    for (int state = 0; state <= 4; state++) Checks.same("way of too many", hall.way(1, state), "!");
  }

  // ---- pairs

  private static void pairsMany() {
    Checks.quote(0, "With two CLAUSES likewise, by pairs, and the EVENTS of both (at most 30 pairs).");
    // "+Ap8" and "+Bq7": 8 with both, 1 as B breaks first, 8 and 9 with one kept, and 4 that are over
    Clausekeep hall = Checks.hall("+Ap8", "+Bq7", "+Bq8", THIRTY);
    Checks.same("30 pairs", hall.pairs(0, 1), 30);
    Checks.same("30 pairs turned round", hall.pairs(1, 0), 30);
    Checks.same("31 pairs", hall.pairs(0, 2), -9);
    Checks.same("31 pairs turned round", hall.pairs(2, 0), -9);
    Checks.same("each alone", hall.reached(0) + hall.reached(2), 22);
    Checks.quote(36, "Returns how many pairs are REACHED; -9 with TOO MANY.");
    Checks.same("pairs of done ones", new Clausekeep().pairs(0, 3), 1);
    Checks.same("pairs of 30 that are the same", hall.pairs(3, 3), 30);
    Checks.same("pairs with too many", hall.pairs(3, 0), -9);
    Checks.quote(36, "- `other`: another one, or the same");
    Checks.same("pairs with itself", hall.pairs(0, 0), 11);
    // by the events of the second one alone, too
    Checks.quote(0, "by pairs, and the EVENTS of both");
    Checks.same("a done one and one that goes on", Checks.hall("1", "+Ap0").pairs(0, 1), 3);
    Checks.same("one that goes on and a done one", Checks.hall("+Ap0", "1").pairs(0, 1), 3);
  }

  private static void alikeBounds() {
    Clausekeep hall = Checks.hall("+Ap8", "+Bq7", "+Bq8", THIRTY_ONE);
    Checks.quote(34, "Returns 1 if they are ALIKE, otherwise 0; -9 with TOO MANY.");
    Checks.same("alike with 30 pairs", hall.alike(0, 1), 0);
    Checks.same("alike with 31 pairs", hall.alike(0, 2), -9);
    Checks.same("alike of 30 that are the same", Checks.hall(THIRTY).alike(0, 0), 1);
    Checks.same("alike of 31 that are the same", hall.alike(3, 3), -9);
    Checks.quote(34, "- `other`: another one, or the same");
    Checks.same("alike of the same", hall.alike(0, 0), 1);
    Checks.quote(0, "Two CLAUSES are ALIKE, if all pairs REACHED have the same STATE.");
    String[] ones = {"0A", "0A", "1", "+Ap1", "+Ap1", "+Ap0[1|0B]", "+Ap1@Ap", "~Ap1[1|0C]"};
    String[] others = {"0B", "1", "0C", "1", "+Ap1@Ap", "+Ap0", "+Ap1@Aq", "~Ap1[1|0C]@Ap"};
    int[] due = {0, 0, 0, 0, 1, 0, 0, 1};
    for (int i = 0; i < due.length; i++) {
      hall = Checks.hall(ones[i], others[i]);
      Checks.same("alike of " + ones[i] + " and " + others[i], hall.alike(0, 1) + 10 * hall.alike(1, 0), 11 * due[i]);
    }
  }

  private static void apartBounds() {
    Clausekeep hall = Checks.hall("+Ap8", "+Bq7", "+Bq8", "+Ap8[1|0C]");
    Checks.quote(0, "APART: the ROW to the first pair found that has not.");
    Checks.same("apart at once", Checks.hall("1", "+Ap1").apart(0, 1), "");
    Checks.same("apart by an act", hall.apart(0, 1), "Ap");
    Checks.same("apart by the first act found", hall.apart(1, 0), "Ap");
    Checks.same("apart on the last day", hall.apart(0, 3), ".........");
    Checks.quote(35, "\"-\" if they are ALIKE;");
    Checks.same("apart of those alike", Checks.hall("+Ap8", "+Ap8@Ap").apart(0, 1), "-");
    Checks.same("apart of done ones", new Clausekeep().apart(1, 2), "-");
    Checks.quote(35, "\"!\" with TOO MANY.");
    Checks.same("apart with 31 pairs", hall.apart(0, 2), "!");
    Checks.same("apart of 31 that are the same", Checks.hall(THIRTY_ONE).apart(0, 0), "!");
    Checks.quote(35, "- `other`: another one, or the same");
    Checks.same("apart of the same", hall.apart(0, 0), "-");
  }

  private static void bindsWhere() {
    Checks.quote(0, "One BINDS more than another one, if in no pair REACHED the other one is BROKEN, and it is not.");
    String[] ones = {"0A", "0A", "1", "1", "+Ap0", "+Ap1", "+Ap1[1|0B]", "+Ap1&+Bq9", "-Ap3"};
    String[] others = {"0B", "1", "1", "0C", "+Ap1", "~Ap1", "+Ap1", "+Ap1", "-Ap2"};
    int[] there = {1, 1, 1, 0, 1, 1, 1, 1, 1};
    int[] back = {1, 0, 1, 1, 0, 0, 1, 0, 0};
    for (int i = 0; i < ones.length; i++) {
      Clausekeep hall = Checks.hall(ones[i], others[i]);
      Checks.same(ones[i] + " binds " + others[i], hall.binds(0, 1), there[i]);
      Checks.same(others[i] + " binds " + ones[i], hall.binds(1, 0), back[i]);
    }
  }

  private static void bindsBounds() {
    Clausekeep hall = Checks.hall("+Ap8", "+Bq7", "+Bq8", THIRTY);
    Checks.quote(37, "Returns 1 if the one BINDS more than the other one (or as much), otherwise 0; -9 with TOO MANY.");
    Checks.same("as much", hall.binds(3, 3), 1);
    Checks.same("less", hall.binds(0, 1), 0);
    Checks.same("less, in the last pair of all", Checks.hall("~Ap8", "~Ap8[1|0B]").binds(0, 1), 0);
    Checks.same("with 31 pairs", hall.binds(0, 2), -9);
    Checks.same("with 31 that are the same", Checks.hall(THIRTY_ONE).binds(0, 0), -9);
    Checks.quote(37, "- `other`: another one, or the same");
    Checks.same("binds itself", hall.binds(0, 0), 1);
  }

  // ---- LEAST

  private static void least(String text, String due) {
    Checks.same("least of " + text, Checks.hall(text).least(0), due);
  }

  private static void leastParts() {
    Checks.quote(0, "LEAST: of a BOTH or an EITHER: from its first PART to its last one, each PART is left out, if others are"
        + " left and these (made NORMAL) are ALIKE to the whole as it was at first;");
    // either of the two could go: the first one does, and then no others are left
    least("+Ap1&+Ap1@Ap", "+Ap1@Ap");
    least("+Ap1@Ap/+Ap1", "+Ap1@Ap");
    least("+Ap1&+Ap1@Ap&+Ap1@Ap@Ap", "+Ap1@Ap@Ap");
    least("+Bq2&+Ap1&+Ap1@Ap", "+Ap1@Ap&+Bq2");
    least("-Ap1&-Ap1@Bq&-Ap2", "-Ap2");
    least("+Ap1/+Ap2/+Ap3", "+Ap3");
    least("+Ap1&+Ap2&+Ap3", "+Ap1");
    least("+Ap1&+Bq1", "+Ap1&+Bq1");
    least("+Ap1/+Bq1", "+Ap1/+Bq1");
    // what is left is compared with the whole: 30 pairs of rest and fewer would do, more of whole and fewer do not
    Clausekeep hall = Checks.hall("+Bp6&-Aq3@Bq&-Aq4", "+Bp6", "+Bp6&-Aq4");
    Checks.same("least by the whole", hall.least(0), "!");
    Checks.same("pairs of the whole", hall.pairs(0, 1), -9);
    Checks.same("pairs of the rest", hall.pairs(2, 1) > 0, true);
    Checks.quote(0, "all others are LEAST as they are.");
    for (String text : new String[] {"1", "0C", "+Ap1", "+Bq1;+Ap1&+Ap2", "(+Ap1&+Ap2)@Bq", "+Ap1[+Bq1&+Bq2|1]"}) {
      least(text, text);
    }
    least("(+Ap1&+Ap2)@Bq&+Cr1", "(+Ap1&+Ap2)@Bq&+Cr1");
  }

  private static void leastMany() {
    Checks.quote(38, "\"!\" if with one of the PARTS there are TOO MANY pairs.");
    // without the first PART there are 30 pairs; with a day more in the second one 31
    Clausekeep hall = Checks.hall("-Bq9&~Ap8", "~Ap8", "-Bq9&~Ap9", "~Ap9");
    Checks.same("30 pairs without the first part", hall.pairs(0, 1), 30);
    Checks.same("least with 30 pairs", hall.least(0), "-Bq9");
    Checks.same("too many without the first part", hall.pairs(2, 3), -9);
    Checks.same("least with too many", hall.least(2), "!");
    hall = Checks.hall("+Ap9&+Bq6", "+Bq6", "+Ap9", "+Ap8&+Bq7");
    Checks.same("few without the first part", hall.pairs(0, 1), 27);
    Checks.same("too many without the last part alone", hall.pairs(0, 2), -9);
    Checks.same("least with too many at last", hall.least(0), "!");
    Checks.same("least with 30 pairs at last", hall.least(3), "+Ap8&+Bq7");
    // it is not asked of a PART that is the only one left, nor of what is no BOTH and no EITHER
    least("+Ap9&+Ap9@Ap", "+Ap9@Ap");
    least(THIRTY_ONE, THIRTY_ONE);
  }

  // ---- SURE

  private static int sure(Clausekeep hall, String text, int turns) {
    Checks.drawn(hall, 0, text);
    return hall.sure(0, 0, turns);
  }

  /** Ap has 10 for A, Aq -4, As 50, Bp -7, Bq 20, Cs -30; FINE is 40. */
  private static Clausekeep bank() {
    Clausekeep hall = new Clausekeep();
    hall.worth(0, 0, 0, 10);
    hall.worth(0, 1, 0, -4);
    hall.worth(0, 3, 0, 50);
    hall.worth(1, 0, 0, -7);
    hall.worth(1, 1, 0, 20);
    hall.worth(2, 3, 0, -30);
    hall.fine(40);
    return hall;
  }

  private static void sureWithoutTurns() {
    Clausekeep hall = bank();
    Checks.quote(0, "SURE of a PARTY, by so many turns (0 to 2): with 0, or if it is not OPEN, 0.");
    Checks.same("with no turn", sure(hall, "~Ap1", 0), 0);
    Checks.same("with one", sure(hall, "~Ap1", 1), 10);
    Checks.same("with two", sure(hall, "2*~Ap1", 2), 20);
    Checks.same("with two, of what is done by one", sure(hall, "~Ap1", 2), 10);
    for (int turns = 0; turns <= 2; turns++) {
      Checks.same("of a done one", sure(hall, "1", turns), 0);
      Checks.same("of a broken one", sure(hall, "0A", turns), 0);
    }
  }

  private static void sureOwn() {
    Clausekeep hall = bank();
    Checks.quote(0, "Otherwise the greatest of what it can choose: one of its ACTS that stand in the TEXT, or none;");
    Checks.same("the greatest", sure(hall, "~Ap3&~Aq3&~As3", 1), 50);
    Checks.same("an act that does not stand there", sure(hall, "~Ap3", 1), 10);
    Checks.same("one that stands in an end", sure(hall, "~Bp3[~As1|1]", 1), 43);
    Checks.same("one that stands behind \"@\"", sure(hall, "~Aq3@As", 1), 50);
    Checks.same("none", sure(hall, "~Aq3", 1), 0);
    Checks.same("none, though others do it harm", sure(hall, "~Aq3&~Bp3", 1), -7);
    Checks.same("one that costs less than the fine", sure(hall, "+Aq0", 1), -4);
    Checks.same("no act of another one", sure(hall, "~Bq3", 1), 0);
    Checks.same("not two acts", sure(hall, "~Ap3&~As3&~Ar3", 1), 50);
  }

  private static void sureOthers() {
    Clausekeep hall = bank();
    Checks.quote(0, "then the smallest of what the others can choose: one ACT of another PARTY that stands in the TEXT of the"
        + " CLAUSE as the turn begins, or none (whatever it changes); then a DAY goes by.");
    Checks.same("the smallest", sure(hall, "~Bp3&~Bq3", 1), -7);
    Checks.same("the smallest of both parties", sure(hall, "~Bp3&~Cs3", 1), -30);
    Checks.same("none", sure(hall, "~Bq3", 1), 0);
    Checks.same("one that does not stand there", sure(hall, "~Br3", 1), 0);
    Checks.same("one that stands there as the turn begins", sure(hall, "~Ap3[~Ar3|1]&~As0[+Ar1|~Cs1]", 1), 20);
    Checks.same("one that went by the own act", sure(hall, "~As3[~Ar3|~Bp3]", 1), 43);
    Checks.same("one act alone", sure(hall, "~Bp3&~Cs3&~Ar3", 1), -30);
    Checks.same("a day goes by", sure(hall, "+Ar0", 1), 0);
    Checks.same("a day goes by behind", sure(hall, "-Ar0[1|0A]", 1), 0);
    Checks.same("a day that breaks it", sure(hall, "~Br0[1|0A]", 1), -40);
    Checks.same("a day that does not break it", sure(hall, "~Br1[1|0A]", 1), 0);
    Checks.same("others ahead of the day", sure(hall, "-Bq0[0A|1]", 1), 20 - 40);
    Checks.same("the own act ahead of others", sure(hall, "~As3/-Bq0[0A|1]", 1), 50);
    // all acts of both others, from the first one to the last one
    hall.fine(0);
    for (int party = 0; party < 3; party++) {
      for (int i = 0; i < 12; i++) {
        hall.worth(i / 4, i % 4, party, -1 - i);
        Checks.drawn(hall, 0, "~" + "ABC".charAt(i / 4) + "pqrs".charAt(i % 4) + "9");
        Checks.same("act " + i + " against " + party, hall.sure(0, party, 1), i / 4 == party ? 0 : -1 - i);
      }
    }
  }

  private static void sureWhileOpen() {
    Clausekeep hall = bank();
    Checks.quote(0, "Of each ACT that comes while it is OPEN its WORTH for the PARTY counts,");
    Checks.same("others cannot act any more", sure(hall, "~Ap3/~Bp3", 1), 10);
    Checks.same("others can act still", sure(hall, "~Ap3&~Bp3", 1), 3);
    Checks.same("no day when it is done", sure(hall, "~Ap3/+Bq0[1|0A]", 1), 10);
    Checks.same("its worth for others does not count", sure(hall, "~Ar3", 1), 0);
    hall.worth(0, 2, 1, 99);
    Checks.same("nor does 99 for B", sure(hall, "~Ar3", 1), 0);
    Checks.same("but for B", hall.sure(0, 1, 1), 0);
    hall.worth(0, 2, 1, -99);
    Checks.same("that is what B can be sure of", hall.sure(0, 1, 1), -99);
    Checks.same("it costs C nothing", hall.sure(0, 2, 1), 0);
  }

  private static void sureFine() {
    Clausekeep hall = bank();
    Checks.quote(0, "and if it becomes BROKEN by that PARTY, FINE less; and what is SURE by one turn less of what is LEFT.");
    Checks.same("by its own act", sure(hall, "-As3", 1), 10);
    Checks.same("by its own act, or not", sure(hall, "-Ap3", 1), 0);
    Checks.same("by the act of another one", sure(hall, "-Bq3[0A|1]", 1), -20);
    Checks.same("by a day", sure(hall, "~Br0[1|0A]", 1), -40);
    Checks.same("by another one", sure(hall, "-Bp3", 1), -7);
    Checks.same("by another one's day", sure(hall, "+Br0", 1), 0);
    Checks.same("by another party's fine", sure(hall, "~Br0[1|0C]", 1), 0);
    Checks.same("on the second day", sure(hall, "~Br1[1|0A]", 2), -40);
    Checks.same("not on the third day", sure(hall, "~Br2[1|0A]", 2), 0);
    Checks.same("and none any more then", sure(hall, "-As3", 2), 10);
  }

  private static void sureOfTwoTurns() {
    Clausekeep hall = bank();
    Checks.quote(0, "and what is SURE by one turn less of what is LEFT.");
    Checks.same("what comes by the first turn", sure(hall, "~Aq5[~As5|1]", 1), 50);
    Checks.same("both", sure(hall, "~Aq5[~As5|1]", 2), 100);
    Checks.same("what is not open behind the first turn", sure(hall, "~Ap0", 2), 10);
    Checks.same("what goes by a day", sure(hall, "~Ap0;~Ap0", 2), 10);
    Checks.same("others twice", sure(hall, "~Bp5;~Bp5", 2), -14);
    Checks.same("others once, for it is done then", sure(hall, "~Bp5", 2), -7);
    Checks.quote(39, "Throws `IllegalStateException` if turns is 2, and more than 5 EVENTS are those of the CONTRACT");
    Checks.drawn(hall, 0, "~Ap1&~Aq1&~Ar1&~Bp1");
    Checks.same("5 events", hall.ofContract(0, 7), 5);
    Checks.same("sure of 5 events, by two turns", hall.sure(0, 2, 2), 0);
    Checks.drawn(hall, 0, "~Ap1&~Aq1&~Ar1&~Bp1&~Cs1");
    Checks.same("6 events", hall.ofContract(0, 7), 6);
    Checks.badState(hall, "sure of 6 events, by two turns", () -> hall.sure(0, 2, 2));
    Checks.same("sure of 6 events, by one turn", hall.sure(0, 0, 1), 10 - 30);
    Checks.same("sure of 6 events, by no turn", hall.sure(0, 0, 0), 0);
  }
}
