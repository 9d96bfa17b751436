/** Promises 29 to 39: what is asked of all rows. */
public final class RowTest {
  private static final int[] BAD_CONTRACTS = {-1, 4, Integer.MIN_VALUE, Integer.MAX_VALUE};

  public static void main(String[] args) {
    reached();
    tooMany();
    clash();
    hopeless();
    way();
    alike();
    pairs();
    binds();
    least();
    sureOfOneTurn();
    sureOfTwoTurns();
    refused();
    refusedOfRows();
    Checks.end();
  }

  private static void reached(String text, String... due) {
    Clausekeep hall = Checks.hall(text);
    Checks.same("reached of " + text, hall.reached(0), due.length);
    for (int i = 0; i < due.length; i++) Checks.same(i + " found of " + text, hall.found(0, i), due[i]);
    Checks.same("one more of " + text, hall.found(0, due.length), "-");
    Checks.same("one far off of " + text, hall.found(0, Integer.MAX_VALUE), "-");
    Checks.same("it stays", hall.text(0), hall.told(0));
  }

  private static void reached() {
    reached("1", "1");
    reached("0C", "0C");
    reached("+Ap1", "+Ap1", "1", "+Ap0", "0A");
    reached("-Ap0", "-Ap0", "0A", "1");
    reached("~Ap0[+Bq0|+Ar0]", "~Ap0[+Bq0|+Ar0]", "+Bq0", "+Ar0", "1", "0B", "0A");
    reached("+Bq0&+Ap0", "+Ap0&+Bq0", "+Bq0", "+Ap0", "0A", "1", "0B");
    reached("+Ap0@Bq", "+Ap0@Bq", "1", "0A");
    reached("+Bq0;+Ap0", "+Bq0;+Ap0", "+Ap0", "0B", "1", "0A");
  }

  private static void tooMany() {
    // ten days and what is done or broken for each, so this reaches 12 and 31
    Clausekeep hall = Checks.hall("+Ap9", "+Ap9;+Bq9;+Cr6", "+Ap9;+Bq9;+Cr5", "+Ap9&-Aq9&~Br9");
    Checks.same("12 are reached", hall.reached(0), 12);
    Checks.same("31 are too many", hall.reached(1), -9);
    Checks.same("30 are not", hall.reached(2), 30);
    Checks.same("the last one found", hall.found(2, 29), "0B");
    Checks.same("none behind it", hall.found(2, 30), "-");
    Checks.same("found of too many", hall.found(1, 0), "!");
    Checks.same("found of too many, far off", hall.found(1, 40), "!");
    Checks.same("clash of too many", hall.clash(1), "!");
    Checks.same("hopeless of too many", hall.hopeless(1), "!");
    Checks.same("way of too many", hall.way(1, 0), "!");
    Checks.same("alike of too many", hall.alike(1, 1), -9);
    Checks.same("apart of too many", hall.apart(1, 0), "!");
    Checks.same("pairs of too many", hall.pairs(0, 1), -9);
    Checks.same("30 pairs", hall.pairs(2, 2), 30);
    Checks.same("binds of too many", hall.binds(1, 3), -9);
    Checks.same("least of too many", hall.least(3), "!");
    Checks.same("least of behind", hall.least(1), "+Ap9;+Bq9;+Cr6");
    Checks.same("reached of three parts", hall.reached(3), -9);
  }

  private static void row(String asked, String text, String due) {
    Clausekeep hall = Checks.hall(text);
    Checks.same(asked + " of " + text, asked.equals("clash") ? hall.clash(0) : hall.hopeless(0), due);
  }

  private static void clash() {
    row("clash", "1", "-");
    row("clash", "+Ap1", "-");
    row("clash", "+Ap1&-Ap9", "");
    row("clash", "+Ap1/-Ap9", "");
    row("clash", "+Ap1&-Bp9", "-");
    row("clash", "+Ap1&-Aq9", "-");
    row("clash", "+Ap1&~Ap9", "-");
    row("clash", "-Ap1&~Ap9", "-");
    row("clash", "+Ap1;-Ap9", "-");
    row("clash", "+Bq1[+Ap1|1]&-Ap5", "Bq");
    row("clash", "+Bq1[1|+Ap1]&-Ap3", "..");
    row("clash", "(~Bq1;~Cr1;+Ap1)&-Ap5", "BqCr");
    row("clash", "(+Ap1&-Ap1@Cs)@Br", "");
  }

  private static void hopeless() {
    row("hopeless", "1", "-");
    row("hopeless", "0A", "-");
    row("hopeless", "+Ap1", "-");
    row("hopeless", "+Ap1[0A|0B]", "");
    row("hopeless", "+Ap1;0A", "");
    row("hopeless", "+Ap1&-Ap2", "");
    row("hopeless", "+Ap3&-Ap0", "-");
    row("hopeless", "+Ap1&-Ap1", "");
    row("hopeless", "+Ap1&-Ap0", "-");
    row("hopeless", "+Bq1[+Ap0&-Ap0|1]", "Bq");
    row("hopeless", "~Bq1[1|+Ap0&-Ap0]", "..");
    row("hopeless", "+Ap1&-Ap2/+Cs0", ".");
    row("hopeless", "(+Ap1&-Ap2)@Cs", "-");
    row("hopeless", "~Ap2[+Bq1|0B]", "-");
    row("hopeless", "~Ap2[+Bq1|-Bq0;0B]", "...");
  }

  private static void way() {
    Clausekeep hall = Checks.hall("+Ap1[+Bq0|0C]", "~Bq1&~Ap1", "-Cr2[0A|1]");
    String[] due = {"", "ApBq", "-", "Ap.", ".."};
    for (int i = 0; i < due.length; i++) Checks.same("way to " + i, hall.way(0, i), due[i]);
    Checks.same("of two ways as short the first one found", hall.way(1, 1), "ApBq");
    Checks.same("way to broken by A", hall.way(2, 2), "Cr");
    Checks.same("no way to broken by C", hall.way(2, 4), "-");
    Checks.same("way to done by days", hall.way(2, 1), "...");
    Checks.same("way of a done one", hall.way(3, 1), "");
    Checks.same("no way of a done one", hall.way(3, 0), "-");
    Clausekeep other = Checks.hall("+Bq1&+Ap1");
    Checks.same("by parties first", other.way(0, 1), "ApBq");
    Checks.drawn(other, 0, "+As1/+Aq1/+Br1");
    Checks.same("by acts then", other.way(0, 1), "Aq");
  }

  private static void alike(String one, String other, String apart) {
    Clausekeep hall = Checks.hall(one, other);
    int due = apart.equals("-") ? 1 : 0;
    Checks.same("alike of " + one + " and " + other, hall.alike(0, 1), due);
    Checks.same("alike of " + other + " and " + one, hall.alike(1, 0), due);
    Checks.same("apart of " + one + " and " + other, hall.apart(0, 1), apart);
    Checks.same("apart of " + other + " and " + one, hall.apart(1, 0), apart);
    Checks.same("each with itself", hall.alike(0, 0) + hall.alike(1, 1), 2);
    Checks.same("apart of itself", hall.apart(1, 1), "-");
  }

  private static void alike() {
    alike("+Ap1", "+Ap1", "-");
    alike("+Ap1", "+Ap1&+Ap2", "-");
    alike("+Ap1", "+Ap1&+Ap0", ".");
    alike("+Ap1", "+Ap1/+Ap0", "-");
    alike("+Ap1", "+Aq1", "Ap");
    alike("+Ap1", "+Bp1", "Ap");
    alike("+Ap1[1|0B]", "+Ap1", "..");
    alike("0A", "0B", "");
    alike("1", "0B", "");
    alike("+Ap1", "1", "");
    alike("~Ap1", "~Bq1", "Ap");
    alike("+Ap2;+Ap2", "2*+Ap2", "-");
    alike("-Ap1[0A|1]@Bq", "-Ap1@Bq", "-");
    alike("+Ap0[+Bq1|1]", "+Ap0[+Bq0|1]", "Ap.");
  }

  private static void pairs() {
    Clausekeep hall = Checks.hall("+Ap0", "+Ap1", "+Bq0", "1");
    Checks.same("pairs of itself", hall.pairs(0, 0), 3);
    // (+Ap0,+Ap1) (1,1) (0A,+Ap0) (0A,1) (0A,0A)
    Checks.same("pairs of two", hall.pairs(0, 1), 5);
    Checks.same("pairs of two turned round", hall.pairs(1, 0), 5);
    // (+Ap0,+Bq0) (1,+Bq0) (+Ap0,1) (0A,0B) (1,1) (1,0B) (0A,1)
    Checks.same("pairs by the events of both", hall.pairs(0, 2), 7);
    Checks.same("pairs with a done one", hall.pairs(3, 1), 4);
    Checks.same("pairs of done ones", hall.pairs(3, 3), 1);
  }

  private static void binds(String one, String other, int there, int back) {
    Clausekeep hall = Checks.hall(one, other);
    Checks.same(one + " binds " + other, hall.binds(0, 1), there);
    Checks.same(other + " binds " + one, hall.binds(1, 0), back);
    Checks.same(one + " binds itself", hall.binds(0, 0), 1);
  }

  private static void binds() {
    binds("+Ap0", "+Ap1", 1, 0);
    binds("+Ap1&+Bq1", "+Ap1", 1, 0);
    binds("+Ap1/+Bq1", "+Ap1", 0, 1);
    binds("+Ap1", "+Bq1", 0, 0);
    binds("0A", "0B", 1, 1);
    binds("+Ap1", "+Ap1[1|0B]", 1, 1);
    binds("1", "~Ap1", 1, 1);
    binds("0C", "+Ap1", 1, 0);
    binds("+Ap1@Bq", "+Ap1", 0, 1);
  }

  private static void least(String text, String due) {
    Clausekeep hall = Checks.hall(text);
    Checks.same("least of " + text, hall.least(0), due);
  }

  private static void least() {
    least("1", "1");
    least("0B", "0B");
    least("+Ap1", "+Ap1");
    least("+Ap1&+Ap2", "+Ap1");
    least("+Ap1/+Ap2", "+Ap2");
    least("+Ap1&+Ap1[1|0A;+Bq1]", "+Ap1");
    least("+Ap0&+Ap1&+Ap2", "+Ap0");
    least("+Ap1&+Bq1", "+Ap1&+Bq1");
    least("~Ap1&~Bq1", "~Ap1&~Bq1");
    least("~Ap1&~Ap1[+Bq1[1|1]|1]&+Cr9", "+Cr9&~Ap1[+Bq1[1|1]|1]");
    least("~Ap0&~Ap0[1|~Bq1]&+Cr2", "+Cr2&~Ap0[1|~Bq1]");
    least("+Ap1;+Ap1&+Ap2", "+Ap1;+Ap1&+Ap2");
    least("(+Ap1&+Ap2)@Bq", "(+Ap1&+Ap2)@Bq");
    least("+Ap1&+Ap2/+Ap1", "+Ap1&+Ap2");
    // the first one goes though the second one could have gone in its place
    least("+Ap1[1|0A]&+Ap1[1|0A;1]&+Ap1[1|1]", "+Ap1");
    least("-Ap0&-Ap0[0B|1]", "-Ap0");
    least("+Ap1[1|0B]&+Ap1[1|0C]", "+Ap1[1|0B]");
  }

  private static int sure(Clausekeep hall, String text, int party, int turns) {
    Checks.drawn(hall, 0, text);
    return hall.sure(0, party, turns);
  }

  private static void sureOfOneTurn() {
    Clausekeep hall = new Clausekeep();
    hall.worth(0, 0, 0, 10);
    hall.worth(0, 1, 0, -4);
    hall.worth(1, 0, 0, -7);
    hall.worth(1, 1, 0, 20);
    hall.fine(30);
    Checks.same("without turns", sure(hall, "~Ap1", 0, 0), 0);
    Checks.same("of a done one", sure(hall, "1", 0, 2), 0);
    Checks.same("of a broken one", sure(hall, "0A", 0, 2), 0);
    Checks.same("its own act", sure(hall, "~Ap1", 0, 1), 10);
    Checks.same("an act that is not in it", sure(hall, "~As1", 0, 1), 0);
    Checks.same("none, for its act costs", sure(hall, "~Aq1", 0, 1), 0);
    Checks.same("it must, or is fined", sure(hall, "+Aq0", 0, 1), -4);
    Checks.same("it must not", sure(hall, "-Ap0", 0, 1), 0);
    Checks.same("it cannot help it", sure(hall, "+As0&-As0", 0, 1), -30);
    Checks.same("others cannot do it harm then", sure(hall, "~Ap1/~Bp1", 0, 1), 10);
    Checks.same("others do it harm", sure(hall, "~Ap1&~Bp1", 0, 1), 3);
    Checks.same("others do it no good", sure(hall, "~Ap1&~Bq1", 0, 1), 10);
    Checks.same("others break it", sure(hall, "~Ap1&~Bs1[0A|1]", 0, 1), -20);
    Checks.same("broken by another one", sure(hall, "~Ap1&-Bs1", 0, 1), 10);
    Checks.same("the act of another one as the turn begins", sure(hall, "~Ap1[~Bp1|1]&~As1", 0, 1), 3);
    Checks.same("with none to come", sure(hall, "~As1[~Bp1|1]", 0, 1), -7);
    Checks.same("others before the day", sure(hall, "-Bs0[0A|1]", 0, 1), -30);
    Checks.same("another party", sure(hall, "~Ap1&~Bp1", 1, 1), 0);
    hall.worth(0, 0, 1, -2);
    hall.worth(1, 0, 0, 90);
    Checks.same("an act of another one cannot be chosen", sure(hall, "~Bp1", 0, 1), 0);
    hall.worth(1, 0, 0, -7);
    hall.worth(2, 3, 1, -3);
    Checks.same("the first act of all against another party", sure(hall, "~Ap1&~Bs1", 1, 1), -2);
    Checks.same("the last act of all against another party", sure(hall, "~Cs1&~Ap1&~Bs1", 1, 1), -3);
    Checks.same("a fine is not that of others", sure(hall, "+As0", 1, 1), 0);
    Checks.same("either way a day goes by", sure(hall, "+Ap0[1|1]&+As0[1|0A]", 0, 1), 0);
  }

  private static void sureOfTwoTurns() {
    Clausekeep hall = new Clausekeep();
    hall.worth(0, 0, 0, 10);
    hall.worth(0, 1, 0, -4);
    hall.worth(0, 2, 0, 25);
    hall.worth(1, 0, 0, -7);
    hall.fine(30);
    Checks.same("twice", sure(hall, "~Ap9;~Ap9", 0, 2), 20);
    Checks.same("once, in two turns", sure(hall, "~Ap9", 0, 2), 10);
    Checks.same("a day for it to be fined", sure(hall, "+Aq1", 0, 1), 0);
    Checks.same("two days for it to be fined", sure(hall, "+Aq1", 0, 2), -4);
    Checks.same("what it costs first", sure(hall, "~Aq5[~Ar5|1]", 0, 1), 25);
    Checks.same("one and the same act twice", sure(hall, "~Aq5[~Ar5|1]&~As9", 0, 2), 50);
    Checks.same("others as well", sure(hall, "~Ap9&~Bp9&~As9", 0, 2), 3);
    Checks.drawn(hall, 1, "+Ap1&+Aq1&+Ar1&+As1&+Bp1");
    Checks.badState(hall, "sure of six events and two turns", () -> hall.sure(1, 0, 2));
    Checks.same("sure of six events and one turn", hall.sure(1, 1, 1), 0);
    Checks.same("sure of six events and no turn", hall.sure(1, 1, 0), 0);
    Checks.drawn(hall, 1, "+Ap1&+Aq1&+Ar1&+As1");
    Checks.same("sure of five events and two turns", hall.sure(1, 1, 2), 0);
  }

  private static void refused() {
    Clausekeep hall = Checks.hall("+Ap1&+Aq1&+Ar1&+As1&+Bp1", "1");
    for (int bad : BAD_CONTRACTS) {
      Checks.badPlace(hall, "reached(" + bad + ")", () -> hall.reached(bad));
      Checks.badPlace(hall, "found(" + bad + ", 0)", () -> hall.found(bad, 0));
      Checks.badPlace(hall, "found(" + bad + ", -1)", () -> hall.found(bad, -1));
      Checks.badPlace(hall, "clash(" + bad + ")", () -> hall.clash(bad));
      Checks.badPlace(hall, "hopeless(" + bad + ")", () -> hall.hopeless(bad));
      Checks.badPlace(hall, "way(" + bad + ", 0)", () -> hall.way(bad, 0));
      Checks.badPlace(hall, "way(" + bad + ", 5)", () -> hall.way(bad, 5));
      Checks.badPlace(hall, "least(" + bad + ")", () -> hall.least(bad));
      Checks.badPlace(hall, "sure(" + bad + ", 0, 0)", () -> hall.sure(bad, 0, 0));
      Checks.badPlace(hall, "sure(" + bad + ", 3, 3)", () -> hall.sure(bad, 3, 3));
      Checks.badPlace(hall, "alike(" + bad + ", 0)", () -> hall.alike(bad, 0));
      Checks.badPlace(hall, "alike(0, " + bad + ")", () -> hall.alike(0, bad));
      Checks.badPlace(hall, "apart(" + bad + ", 0)", () -> hall.apart(bad, 0));
      Checks.badPlace(hall, "apart(0, " + bad + ")", () -> hall.apart(0, bad));
      Checks.badPlace(hall, "pairs(" + bad + ", 0)", () -> hall.pairs(bad, 0));
      Checks.badPlace(hall, "pairs(0, " + bad + ")", () -> hall.pairs(0, bad));
      Checks.badPlace(hall, "binds(" + bad + ", 0)", () -> hall.binds(bad, 0));
      Checks.badPlace(hall, "binds(0, " + bad + ")", () -> hall.binds(0, bad));
    }
  }

  private static void refusedOfRows() {
    Clausekeep hall = Checks.hall("+Ap1&+Aq1&+Ar1&+As1&+Bp1", "1");
    for (int bad : new int[] {-1, Integer.MIN_VALUE}) {
      Checks.badNumber(hall, "found(0, " + bad + ")", () -> hall.found(0, bad));
    }
    for (int bad : new int[] {-1, 5, Integer.MIN_VALUE, Integer.MAX_VALUE}) {
      Checks.badNumber(hall, "way(0, " + bad + ")", () -> hall.way(0, bad));
    }
    for (int bad : new int[] {-1, 3, Integer.MIN_VALUE, Integer.MAX_VALUE}) {
      Checks.badNumber(hall, "sure(0, " + bad + ", 2)", () -> hall.sure(0, bad, 2));
      Checks.badNumber(hall, "sure(0, 0, " + bad + ")", () -> hall.sure(0, 0, bad));
    }
  }
}
