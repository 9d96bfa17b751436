/** Promises 6 to 17: what is done with contracts, and what is undone. */
public final class ContractTest {
  private static final int[] BAD_CONTRACTS = {-1, 4, Integer.MIN_VALUE, Integer.MAX_VALUE};
  private static final int[] BAD_PARTIES = {-1, 3, Integer.MIN_VALUE, Integer.MAX_VALUE};

  public static void main(String[] args) {
    draw();
    join();
    joinGreat();
    left();
    act();
    days();
    run();
    transfer();
    waive();
    worth();
    fine();
    undo();
    undoOfEach();
    blankAndKnock();
    refused();
    refusedTwice();
    Checks.end();
  }

  private static void draw() {
    Clausekeep hall = new Clausekeep();
    Checks.type(hall, "+Bq1&+Ap1");
    Checks.same("draw", hall.draw(3), 9);
    Checks.same("its text", hall.text(3), "+Ap1&+Bq1");
    Checks.same("what it was when it was told", hall.told(3), "+Ap1&+Bq1");
    Checks.same("the paper", hall.paper(false), "");
    hall.act(3, 0, 0);
    Checks.same("its log", hall.log(3), "Ap");
    Checks.same("draw without a text", hall.draw(3), -9);
    Checks.type(hall, "+Bq1;");
    String before = Checks.all(hall);
    Checks.same("draw with a fault", hall.draw(3), -9);
    Checks.same("all after that", Checks.all(hall), before);
    Checks.drawn(hall, 3, "0C");
    Checks.same("its log is empty again", hall.log(3), "");
    Checks.same("others stay", hall.text(2), "1");
    Checks.same("one can be drawn that is broken", hall.ofContract(3, 0), 4);
    Checks.same("nobody pays for that", hall.account(2), 0);
  }

  private static void join() {
    Clausekeep hall = Checks.hall("+Bq1", "+Ap1/+Cr1", "0B");
    Checks.same("both", hall.join(0, 1, 3, 0), 16);
    Checks.same("text of both", hall.text(3), "(+Ap1/+Cr1)&+Bq1");
    Checks.same("told of both", hall.told(3), "(+Ap1/+Cr1)&+Bq1");
    Checks.same("either", hall.join(0, 1, 3, 1), 14);
    Checks.same("text of either", hall.text(3), "+Ap1/+Bq1/+Cr1");
    Checks.same("behind", hall.join(0, 1, 3, 2), 14);
    Checks.same("text of behind", hall.text(3), "+Bq1;+Ap1/+Cr1");
    hall.act(3, 1, 1);
    Checks.same("one of itself", hall.join(3, 3, 3, 2), 19);
    Checks.same("text of one of itself", hall.text(3), "+Ap1/+Cr1;+Ap1/+Cr1");
    Checks.same("its log", hall.log(3), "");
    Checks.same("both with a broken one", hall.join(2, 0, 1, 0), 2);
    Checks.same("text with a broken one", hall.text(1), "0B");
    Checks.same("the one stays", hall.text(0), "+Bq1");
    Checks.same("how many can be undone", hall.house(5), 8);
    Checks.type(hall, "+Ap");
    Checks.same("the paper stays", hall.join(0, 0, 0, 1) + hall.paper(false), "4+Ap");
  }

  private static void joinGreat() {
    Clausekeep hall = new Clausekeep();
    Checks.kept(hall, 0, "3*+Ap1");
    Checks.drawn(hall, 0, "#0;#0;#0;+Ap1@Bq");
    Checks.drawn(hall, 1, "+Ap1@Bq");
    Checks.drawn(hall, 2, "+Ap1@Bq@Cr");
    String before = Checks.all(hall);
    Checks.same("63 signs", hall.join(0, 2, 3, 2), -9);
    Checks.same("all after 63 signs", Checks.all(hall), before);
    Checks.same("60 signs", hall.join(0, 1, 3, 2), 60);
    Checks.same("the 60 signs", hall.text(3).length(), 60);
    Checks.same("60 signs twice", hall.join(3, 3, 3, 2), -9);
    Checks.same("60 signs and the same", hall.join(3, 3, 2, 0), 60);
    Checks.same("all of that goes on", hall.days(3, 9), 2);
    Checks.same("and is broken", hall.text(3), "0A");
    Checks.drawn(hall, 0, "3*#0");
    Checks.drawn(hall, 1, "+Ap1@Bq@Cr@As");
    Checks.same("60 signs with brackets", hall.join(0, 1, 3, 0), 60);
    Checks.drawn(hall, 1, "-Ap1[1|0B]@Cr@As");
    Checks.same("63 signs with brackets", hall.join(0, 1, 3, 1), -9);
  }

  private static void left(String text, String row, String due) {
    Clausekeep hall = Checks.hall(text);
    Checks.type(hall, row);
    hall.run(0);
    Checks.same("what is left of " + text + " by " + row, hall.text(0), due);
  }

  private static void left() {
    left("+Ap1", "Ap", "1");
    left("+Ap1", ".", "+Ap0");
    left("+As1", "ArAs", "1");
    left("+Cs1", "BsCs", "1");
    left("+Ap1", "..", "0A");
    left("+Ap1", "BpAqCs", "+Ap1");
    left("-Bq0", "Bq", "0B");
    left("-Bq0", ".", "1");
    left("~Cr0", ".", "1");
    left("~Cr0", "Cr", "1");
    left("~Ap2[+Bq1|+Cr1]", "Ap", "+Bq1");
    left("~Ap2[+Bq1|+Cr1]", "...", "+Cr1");
    left("~Ap2[+Bq1|+Cr1]", "..", "~Ap0[+Bq1|+Cr1]");
    left("+Ap1&+Bq1", "Ap", "+Bq1");
    left("+Ap1&+Bq1", "..", "0A");
    left("+Cp0&+Bq0", ".", "0B");
    left("+Ap1/+Bq1", "Bq", "1");
    left("+Ap0/+Bq1", ".", "+Bq0");
    left("+Cp0/+Bq0", ".", "0B");
    left("+Ap1;+Bq1", ".", "+Ap0;+Bq1");
    left("+Ap1;+Bq1", "Bq", "+Ap1;+Bq1");
    left("+Ap1;+Ap1", "Ap", "+Ap1");
    left("+Ap0;+Bq1", ".", "0A");
    left("+Ap1@Bq", "Bq", "1");
    left("+Ap1@Bq", ".", "+Ap0@Bq");
    left("+Ap1@Ap", "Ap", "1");
    left("-Ap1@Ap", "Ap", "1");
    left("-Ap1@Bq", "Ap", "0A");
    left("(+Ap1;+Cr1)@Bq", "Ap", "+Cr1@Bq");
    left("(+Ap1;+Cr1)@Bq;+As1", "Bq", "+As1");
    left("+Ap1[+Bq1/+Cr1|1]&+As9", "Ap", "+As9&(+Bq1/+Cr1)");
    left("+Ap1[+Aq9&+As9|1]&+As9", "Ap", "+Aq9&+As9");
    left("+Ap1[+Aq1;+As1|1];+Br1", "Ap", "+Aq1;+As1;+Br1");
    left("+Ap0[0B|+Aq1]&+Aq2", ".", "+Aq1");
  }

  private static void act() {
    Clausekeep hall = Checks.hall("+Ap1[+Bq0|0C]&~Cr5", "-Bs3", "+Ap1");
    Checks.same("an act that is open then", hall.act(0, 0, 0), 0);
    Checks.same("text", hall.text(0), "+Bq0&~Cr5");
    Checks.same("an act that changes nothing", hall.act(0, 0, 0), 0);
    Checks.same("log", hall.log(0), "ApAp");
    Checks.same("an act that breaks", hall.act(1, 1, 3), 3);
    Checks.same("an act that ends", hall.act(2, 0, 0), 1);
    String before = Checks.all(hall);
    Checks.same("an act when it is done", hall.act(2, 0, 0), -9);
    Checks.same("an act when it is broken", hall.act(1, 1, 3), -9);
    Checks.same("all after that", Checks.all(hall), before);
    Checks.same("told stays", hall.told(0), "+Ap1[+Bq0|0C]&~Cr5");
    Clausekeep other = Checks.hall("+Ap1[1|0C]");
    other.days(0, 2);
    Checks.same("broken by another one", other.ofContract(0, 0), 4);
    Checks.drawn(other, 1, "~Ap1[0A|1]");
    Checks.same("broken by A", other.act(1, 0, 0), 2);
  }

  private static void days() {
    Clausekeep hall = Checks.hall("+Ap3", "~Ap9;+Bq9");
    Checks.same("days of a done one", hall.days(3, 9), 0);
    Checks.same("days with 0 can be undone", hall.house(5), 3);
    Checks.same("log of a done one", hall.log(3), "");
    Checks.same("days", hall.days(0, 2), 2);
    Checks.same("text", hall.text(0), "+Ap1");
    Checks.same("days till it is not open", hall.days(0, 9), 2);
    Checks.same("text then", hall.text(0), "0A");
    Checks.same("log then", hall.log(0), "....");
    Checks.same("days of a broken one", hall.days(0, 1), 0);
    Checks.same("nine days", hall.days(1, 9), 9);
    Checks.same("nine more", hall.days(1, 9), 9);
    Checks.same("text after 18", hall.text(1), "+Bq1");
    Checks.same("log after 18", hall.log(1), "..................");
    hall.undo();
    Checks.same("log after 9", hall.log(1), ".........");
    for (int bad : new int[] {0, 10, -1, Integer.MIN_VALUE, Integer.MAX_VALUE}) {
      Checks.badNumber(hall, "days(1, " + bad + ")", () -> hall.days(1, bad));
    }
  }

  private static void run() {
    Clausekeep hall = Checks.hall("+Ap1;+Bq1", "~Ap9");
    Checks.same("an empty row", hall.run(0), 0);
    Checks.same("it can be undone", hall.house(5), 3);
    Checks.type(hall, "Ap.BqAp");
    Checks.same("a row till it is done", hall.run(0), 3);
    Checks.same("the paper", hall.paper(false), "");
    Checks.same("its log", hall.log(0), "Ap.Bq");
    Checks.type(hall, "..");
    Checks.same("a row for one that is done", hall.run(0), 0);
    Checks.same("the paper is empty, too", hall.paper(false), "");
    for (String bad : new String[] {"A", "p", "Ap.A", "pA", "ApA.", "1", "+Ap1", "Ap1", "..#", "AA", "A.", ".p", "1p", "+p", "pq", "#s", "A0"}) {
      hall.wipe();
      Checks.type(hall, bad);
      String before = Checks.all(hall);
      Checks.same("run of " + bad, hall.run(1), -9);
      Checks.same("all after run of " + bad, Checks.all(hall), before);
    }
    hall.wipe();
    Checks.type(hall, "BpBpBpBpBpBpBpBpBpBpBpBpBpBpBpBpBpBpBpBp");
    Checks.same("20 acts", hall.run(1), 20);
    Checks.type(hall, "........................................");
    Checks.same("40 days", hall.run(1), 10);
    Checks.same("how many came", hall.ofContract(1, 4), 30);
    hall.undo();
    Checks.same("how many came before", hall.ofContract(1, 4), 20);
    Checks.same("the text before", hall.text(1), "~Ap9");
    Checks.same("the paper is not undone", hall.paper(false), "");
  }

  private static void transfer() {
    Clausekeep hall = Checks.hall("+Ap1[-Aq1|0A]&+Bp1@As&(~Ap1;+Ap2[1|0C])");
    Checks.same("transfer", hall.transfer(0, 0, 2), hall.text(0).length());
    Checks.same("text", hall.text(0), "+Bp1@Cs&+Cp1[-Cq1|0C]&(~Cp1;+Cp2)");
    Checks.same("told", hall.told(0), hall.text(0));
    Checks.same("to the same", hall.transfer(0, 1, 1), hall.text(0).length());
    Checks.same("all to one", hall.transfer(0, 2, 1), hall.text(0).length());
    Checks.same("text of one", hall.text(0), "+Bp1@Bs&+Bp1[-Bq1|0B]&(~Bp1;+Bp2)");
    Checks.drawn(hall, 1, "+Ap1&+Bp1");
    hall.act(1, 2, 0);
    Checks.same("like ones are one", hall.transfer(1, 1, 0), 4);
    Checks.same("the log is empty", hall.log(1), "");
    Checks.drawn(hall, 2, "0B");
    Checks.same("of a broken one", hall.transfer(2, 1, 2), 2);
    Checks.same("text of a broken one", hall.text(2), "0C");
    Checks.same("of a done one", hall.transfer(3, 1, 2), 1);
    Checks.drawn(hall, 2, "+Ap1;0A");
    hall.transfer(2, 0, 1);
    Checks.same("broken behind", hall.text(2), "+Bp1;0B");
    Checks.drawn(hall, 2, "+Cp1/+Bp1");
    hall.transfer(2, 2, 0);
    Checks.same("by their texts again", hall.text(2), "+Ap1/+Bp1");
  }

  private static void waive() {
    Clausekeep hall = Checks.hall("+Ap1&+Bq1&(+Cr1/+Cs1)", "+Ap1/+Bq1", "+Ap1", "+Ap1;+Bq1&+Cr1");
    hall.days(0, 1);
    Checks.same("waive", hall.waive(0, 0), 0);
    Checks.same("text", hall.text(0), "+Bq0&(+Cr0/+Cs0)");
    Checks.same("told", hall.told(0), "+Bq0&(+Cr0/+Cs0)");
    Checks.same("log", hall.log(0), "");
    String before = Checks.all(hall);
    Checks.same("no such part", hall.waive(0, 2), -9);
    Checks.same("a part far off", hall.waive(0, Integer.MAX_VALUE), -9);
    Checks.same("of either", hall.waive(1, 0), -9);
    Checks.same("of a duty", hall.waive(2, 0), -9);
    Checks.same("of behind", hall.waive(3, 0), -9);
    Checks.same("all after that", Checks.all(hall), before);
    Checks.same("the last one", hall.waive(0, 1), 0);
    Checks.same("its text", hall.text(0), "+Bq0");
    hall.undo();
    Checks.same("undone", hall.text(0), "+Bq0&(+Cr0/+Cs0)");
    Checks.badNumber(hall, "waive(1, -1)", () -> hall.waive(1, -1));
  }

  private static void worth() {
    Clausekeep hall = Checks.hall("~Ap9", "+Bq1");
    Checks.same("worth", hall.worth(0, 0, 0, -99), 0);
    Checks.same("worth again", hall.worth(0, 0, 0, 5), -99);
    Checks.same("worth the same", hall.worth(0, 0, 0, 5), 5);
    hall.worth(0, 0, 2, 99);
    hall.worth(2, 3, 1, -7);
    hall.worth(2, 3, 2, 60);
    hall.undo();
    Checks.same("the last worth of all is undone", hall.worth(2, 3, 2, 0), 0);
    hall.act(0, 2, 3);
    Checks.same("B after Cs", hall.account(1), -7);
    hall.act(0, 0, 0);
    Checks.same("A after Ap", hall.account(0), 5);
    Checks.same("B after Ap", hall.account(1), -7);
    Checks.same("C after Ap", hall.account(2), 99);
    hall.act(0, 0, 0);
    Checks.same("A when it is not open", hall.account(0), 5);
    hall.act(1, 0, 0);
    Checks.same("A after Ap of another contract", hall.account(0), 10);
    Checks.type(hall, "ApBqAp");
    hall.run(1);
    Checks.same("A after a row", hall.account(0), 15);
    for (int bad : BAD_PARTIES) {
      Checks.badNumber(hall, "worth of party " + bad, () -> hall.worth(bad, 0, 0, 1));
      Checks.badNumber(hall, "worth for party " + bad, () -> hall.worth(0, 0, bad, 1));
      Checks.badNumber(hall, "worth of act " + bad, () -> hall.worth(0, bad == 3 ? 4 : bad, 0, 1));
    }
    for (int bad : new int[] {-100, 100, Integer.MIN_VALUE, Integer.MAX_VALUE}) {
      Checks.badNumber(hall, "worth " + bad, () -> hall.worth(0, 0, 0, bad));
    }
    Checks.same("worth after refused ones", hall.worth(0, 0, 0, 99), 5);
    Checks.same("99 is a worth, -99, too", hall.worth(0, 0, 0, -99), 99);
  }

  private static void fine() {
    Clausekeep hall = Checks.hall("+Ap0", "-Bq3", "~Cr1[0A|1]", "+Ap0[0B|1]");
    Checks.same("fine", hall.fine(99), 0);
    Checks.same("fine again", hall.fine(10), 99);
    Checks.same("fine told", hall.house(4), 10);
    hall.days(0, 3);
    Checks.same("A by a day", hall.account(0), -10);
    hall.act(1, 1, 1);
    Checks.same("B by an act", hall.account(1), -10);
    hall.act(2, 2, 2);
    Checks.same("A by another one's act", hall.account(0), -20);
    Checks.same("C by that", hall.account(2), 0);
    Checks.type(hall, ".");
    hall.run(3);
    Checks.same("nobody by a done one", hall.account(1), -10);
    hall.join(0, 1, 3, 0);
    hall.transfer(0, 0, 1);
    Checks.same("nobody without an event", hall.account(0) + hall.account(1), -30);
    for (int bad : new int[] {-1, 100, Integer.MIN_VALUE, Integer.MAX_VALUE}) {
      Checks.badNumber(hall, "fine(" + bad + ")", () -> hall.fine(bad));
    }
    Checks.same("fine after refused ones", hall.fine(0), 10);
  }

  private static void undo() {
    Clausekeep hall = new Clausekeep();
    Checks.badState(hall, "undo of nothing", () -> hall.undo());
    for (int i = 1; i <= 10; i++) hall.fine(i);
    Checks.same("how many can be undone", hall.house(5), 8);
    for (int i = 7; i >= 0; i--) {
      Checks.same("undo", hall.undo(), i);
      Checks.same("the fine then", hall.house(4), i + 2);
    }
    Checks.badState(hall, "undo of one more than 8", () -> hall.undo());
    hall.fine(50);
    Checks.same("one can be undone again", hall.undo(), 0);
    Checks.same("the fine again", hall.house(4), 2);
  }

  /** Each call of the section is undone, and those that are refused, -9 or no such calls are not. */
  private static void undoOfEach() {
    Clausekeep hall = Checks.hall("+Ap3&-Bq3", "+Ap1");
    Checks.kept(hall, 1, "+Cs1");
    hall.worth(0, 0, 0, 3);
    hall.fine(20);
    hall.act(0, 0, 2);
    String[] names = {"draw", "join", "act", "days", "run", "transfer", "waive", "worth", "fine", "name", "unname"};
    Checks.Call[] calls = {() -> hall.draw(0), () -> hall.join(0, 1, 2, 2), () -> hall.act(0, 0, 0),
        () -> hall.days(0, 9), () -> hall.run(0), () -> hall.transfer(0, 0, 2), () -> hall.waive(0, 1),
        () -> hall.worth(0, 0, 0, 9), () -> hall.fine(1), () -> hall.name(1), () -> hall.unname(1)};
    for (int i = 0; i < calls.length; i++) {
      hall.wipe();
      if (names[i].equals("run")) Checks.type(hall, "Bq.");
      if (names[i].equals("draw") || names[i].equals("name")) Checks.type(hall, "+Cr5");
      Checks.same("what can be undone ahead of " + names[i], hall.house(5), 6);
      String paper = hall.paper(false);
      hall.wipe();
      String before = Checks.all(hall);
      Checks.type(hall, paper);
      calls[i].answer();
      hall.wipe();
      Checks.same("undo of " + names[i], hall.undo(), 6);
      Checks.same("all after undo of " + names[i], Checks.all(hall), before);
      Checks.same("the worth after undo of " + names[i], hall.worth(0, 0, 0, 3), 3);
      hall.undo();
    }
    hall.say(1, -1, -1, -1, -1, -1);
    hall.wipe();
    hall.blank();
    hall.knock();
    Checks.same("what no undo counts", hall.house(5), 6);
    hall.undo();
    Checks.same("blank stays", hall.house(6), 1);
    Checks.same("knock stays", hall.house(7), 1);
    Checks.same("the log after undo", hall.log(0), "");
    hall.act(0, 0, 1);
    hall.days(0, 1);
    Checks.same("the log after undo and more", hall.log(0), "Aq.");
    hall.undo();
    Checks.same("the log after undo again", hall.log(0), "Aq");
    hall.transfer(0, 0, 0);
    hall.act(0, 2, 2);
    hall.undo();
    hall.undo();
    Checks.same("the log after undo of being told", hall.log(0), "Aq");
    Checks.same("what it was when it was told then", hall.told(0), "+Ap3&-Bq3");
  }

  private static void blankAndKnock() {
    Clausekeep hall = new Clausekeep();
    Checks.same("blank", hall.blank(), -9);
    Checks.same("blank again", hall.blank(), -9);
    Checks.same("how often", hall.house(6), 2);
    Checks.same("knock", hall.knock(), 1);
    Checks.same("knock again", hall.knock(), 2);
    Checks.same("knock once more", hall.knock(), 3);
    Checks.same("how often it was knocked", hall.house(7), 3);
    hall.draw(0);
    Checks.same("-9 by others does not count", hall.house(6), 2);
  }

  private static void refused() {
    Clausekeep hall = Checks.hall("+Ap3&-Bq3", "+Ap1");
    Checks.type(hall, "+Cr1");
    for (int bad : BAD_CONTRACTS) {
      Checks.badPlace(hall, "draw(" + bad + ")", () -> hall.draw(bad));
      Checks.badPlace(hall, "join one " + bad, () -> hall.join(bad, 0, 0, 0));
      Checks.badPlace(hall, "join other " + bad, () -> hall.join(0, bad, 0, 0));
      Checks.badPlace(hall, "join to " + bad, () -> hall.join(0, 0, bad, 0));
      Checks.badPlace(hall, "act(" + bad + ")", () -> hall.act(bad, 0, 0));
      Checks.badPlace(hall, "days(" + bad + ")", () -> hall.days(bad, 1));
      Checks.badPlace(hall, "run(" + bad + ")", () -> hall.run(bad));
      Checks.badPlace(hall, "transfer(" + bad + ")", () -> hall.transfer(bad, 0, 1));
      Checks.badPlace(hall, "waive(" + bad + ")", () -> hall.waive(bad, 0));
    }
    for (int bad : BAD_PARTIES) {
      Checks.badNumber(hall, "join how " + bad, () -> hall.join(0, 0, 0, bad));
      Checks.badNumber(hall, "act of party " + bad, () -> hall.act(0, bad, 0));
      Checks.badNumber(hall, "act of act " + bad, () -> hall.act(0, 0, bad == 3 ? 4 : bad));
      Checks.badNumber(hall, "transfer from " + bad, () -> hall.transfer(0, bad, 0));
      Checks.badNumber(hall, "transfer to " + bad, () -> hall.transfer(0, 0, bad));
    }
  }

  /** If several exceptions apply, that of the contract is named first; and all are ahead of -9. */
  private static void refusedTwice() {
    Clausekeep hall = Checks.hall("+Ap3&-Bq3", "+Ap1");
    Checks.badPlace(hall, "join twice", () -> hall.join(0, 0, 4, 3));
    Checks.badPlace(hall, "act twice", () -> hall.act(4, 3, 4));
    Checks.badPlace(hall, "days twice", () -> hall.days(-1, 0));
    Checks.badPlace(hall, "transfer twice", () -> hall.transfer(4, 3, 3));
    Checks.badPlace(hall, "waive twice", () -> hall.waive(4, -1));
    Checks.badNumber(hall, "act on a done one", () -> hall.act(3, 0, 4));
    Checks.badNumber(hall, "days of a done one", () -> hall.days(3, 0));
    Checks.badNumber(hall, "waive of a duty", () -> hall.waive(1, -1));
    Checks.badPlace(hall, "draw without a text", () -> hall.draw(4));
    Checks.type(hall, "1");
    Checks.badPlace(hall, "run of no row", () -> hall.run(4));
  }
}
