/** A whole life: 512 calls, the longest logs that they can make, and what is answered by the last one. */
final class BoundsOfLife {
  private static final int CALLS = 512;
  private static final String TWENTY_ACTS = Checks.times("Br", 20);
  private static final String FORTY_DAYS = Checks.times(".", 40);

  private BoundsOfLife() {
  }

  static void check() {
    lastOfAll();
    lastAfterDearOnes();
    longestLogOfActs();
    longestLogOfDays();
    longestLogOfRows();
    allLogsOfALife();
    pastLogs();
    manyUndone();
    greatestAccounts();
    dearestSure();
  }

  /** A contract that 120 days bring to its end, by 1: it is drawn once and joined from there. */
  private static Clausekeep withLongOne() {
    Clausekeep hall = new Clausekeep();
    Checks.kept(hall, 0, "4*~Ap9");
    Checks.drawn(hall, 1, "3*#0");
    return hall;
  }

  // ---- the 512th call

  /** A call of each method, those that change something first. */
  static Checks.Call[] askedOf(Clausekeep h) {
    return new Checks.Call[] {() -> h.say(1, 2, 3, 4, 5, 31), () -> h.wipe(), () -> h.name(1), () -> h.unname(0),
        () -> h.draw(3), () -> h.join(0, 1, 2, 0), () -> h.act(0, 0, 0), () -> h.days(0, 9), () -> h.run(0),
        () -> h.transfer(0, 0, 2), () -> h.waive(0, 1), () -> h.worth(0, 0, 0, 1), () -> h.fine(1), () -> h.undo(),
        () -> h.blank(), () -> h.paper(true), () -> h.paper(false), () -> h.fault(), () -> h.named(0), () -> h.text(0),
        () -> h.ofContract(0, 5), () -> h.duties(0), () -> h.due(0, 0, 0), () -> h.told(0), () -> h.log(0),
        () -> h.account(2), () -> h.house(5), () -> h.reached(0), () -> h.found(0, 3), () -> h.clash(0),
        () -> h.hopeless(0), () -> h.way(0, 2), () -> h.alike(0, 1), () -> h.apart(0, 1), () -> h.pairs(0, 1),
        () -> h.binds(0, 1), () -> h.least(0), () -> h.sure(0, 0, 2), () -> h.isSound(), () -> h.digest()};
  }

  private static Clausekeep begun(String paper) {
    Clausekeep hall = Checks.hall("+Ap5&+Ap7&-Bq3", "+Ap2/+Bq1");
    Checks.kept(hall, 0, "+Ap1");
    hall.worth(1, 0, 2, 17);
    hall.act(0, 1, 0);
    Checks.type(hall, paper);
    return hall;
  }

  private static Object answer(Checks.Call call) {
    try {
      return call.answer();
    } catch (RuntimeException e) {
      return e.getClass();
    }
  }

  /** What begun() calls: three times wipe(), seven times say(), twice draw(), and name(), worth() and act(). */
  private static void lastOfAll() {
    Checks.quote(0, "An object is used for at most 512 calls after it has been made; what later calls answer is free.");
    for (String paper : new String[] {"+Cr1", "Bp."}) {
      int many = askedOf(begun(paper)).length;
      for (int nth = 0; nth < many; nth++) {
        Clausekeep young = begun(paper);
        Clausekeep old = begun(paper);
        Checks.Call[] asked = askedOf(old);
        for (int i = 15; i < CALLS; i++) {
          // what asks only comes again and again, the dear ones too
          asked[15 + i % (asked.length - 15)].answer();
        }
        Checks.same("call " + nth + " as the last of all", answer(asked[nth]), answer(askedOf(young)[nth]));
      }
    }
  }

  private static void lastAfterDearOnes() {
    Checks.quote(0, "An object is used for at most 512 calls");
    for (int nth = 15; nth < 40; nth++) {
      Clausekeep hall = Checks.hall("+Ap9;+Bq9;+Cr5", Checks.rowOfSize("-Cp9", 60), "+Ap9&-Aq8&~Br7&+Bs6&-Cp5/+As2");
      Checks.type(hall, "4*(+Ap1&(+Bq2/-Cr3;~As4)@Bs)@Cp");
      String before = Checks.all(hall);
      Object first = answer(askedOf(hall)[nth]);
      // what is asked around it takes some hundred calls
      for (int i = 0; i < CALLS - 110; i++) answer(askedOf(hall)[nth]);
      Checks.same("call " + nth + " again and again", answer(askedOf(hall)[nth]), first);
      Checks.same("all that is told after it", Checks.all(hall), before);
    }
  }

  // ---- LOGS

  /** As many acts as there are calls, one by one: four calls are left to ask. */
  private static void longestLogOfActs() {
    Checks.quote(26, "Returns its LOG.");
    Clausekeep hall = Checks.hall("~Ap9");
    int calls = 3;
    for (; calls < CALLS - 4; calls++) Checks.same("an act", hall.act(0, 1, 2), 0);
    Checks.same("how many", hall.ofContract(0, 4), CALLS - 7);
    Checks.same("it is sound", hall.isSound(), true);
    Checks.same("text", hall.text(0), "~Ap9");
    Checks.same("the log by the last call", hall.log(0), Checks.times("Br", CALLS - 7));
  }

  /** 120 days: no contract of 60 signs goes on longer. */
  private static void longestLogOfDays() {
    Checks.quote(26, "Returns its LOG.");
    Clausekeep hall = withLongOne();
    for (int days = 9; days < 120; days += 9) {
      Checks.same("days", hall.days(1, 9), 9);
      Checks.same("log", hall.log(1), Checks.times(".", days));
    }
    Checks.same("the last days", hall.days(1, 9), 3);
    Checks.same("the whole log", hall.log(1), Checks.times(".", 120));
    Checks.same("it is done", hall.text(1), "1");
    Checks.same("it is sound", hall.isSound(), true);
  }

  /** Rows of the greatest length: seven calls to type forty signs, and one to run. Three of days, the last one, too. */
  private static void longestLogOfRows() {
    Checks.quote(26, "Returns its LOG.");
    for (int last = 0; last < 4; last++) {
      Clausekeep hall = withLongOne();
      StringBuilder due = new StringBuilder();
      // what withLongOne() calls: 6
      int calls = 6;
      int events = 0;
      for (int row = 0; calls + 8 < CALLS - 2; row++) {
        String text = row % 21 == 19 ? FORTY_DAYS : TWENTY_ACTS;
        Checks.type(hall, text);
        int many = row % 21 == 19 ? 40 : 20;
        Checks.same("a row", hall.run(1), many);
        events += many;
        due.append(text);
        calls += 8;
      }
      if (last == 0) Checks.same("the log", hall.log(1), due.toString());
      if (last == 1) Checks.same("how many", hall.ofContract(1, 4), events);
      if (last == 2) Checks.same("it is sound", hall.isSound(), true);
      if (last == 3) Checks.same("told", hall.told(1).length(), 59);
      Checks.same("so long it is", due.length() > 2400, true);
      Checks.same("undo", hall.undo(), 7);
      Checks.same("the log before", hall.log(1), due.substring(0, due.length() - 40));
    }
  }

  /** Joined again and again, as many days come to one contract as 512 calls can bring. */
  private static void allLogsOfALife() {
    Checks.quote(0, "(drawn, joined, transferred or waived: the LOG is empty then)");
    Clausekeep hall = withLongOne();
    int calls = 6;
    int all = 0;
    int since = 0;
    java.util.List<Integer> before = new java.util.ArrayList<>();
    while (calls < CALLS - 12) {
      // its last three days would cost a call, too
      if (since == 0 || since > 108) {
        before.add(since);
        hall.join(1, 1, 0, 0);
        since = 0;
        calls++;
      }
      before.add(since);
      int came = hall.days(0, 9);
      calls++;
      since += came;
      all += came;
    }
    Checks.same("how many days came to one", all > 4100, true);
    Checks.same("the log", hall.log(0), Checks.times(".", since));
    Checks.same("how many", hall.ofContract(0, 4), since);
    Checks.same("it is sound", hall.isSound(), true);
    Checks.same("others have none", hall.log(1) + hall.log(2) + hall.log(3), "");
    for (int i = 0; i < 3; i++) hall.undo();
    Checks.same("the log three calls ago", hall.log(0).length(), before.get(before.size() - 3));
    Checks.same("it is sound then", hall.isSound(), true);
  }

  /** A log that was there before its contract was told comes back whole. */
  private static void pastLogs() {
    Checks.quote(15, "LOGS, NAMES, WORTHS, FINE, ACCOUNTS are as ahead of it");
    Clausekeep hall = withLongOne();
    Checks.run(hall, 1, "Br.Cs" + Checks.times(".", 30));
    String first = hall.log(1);
    hall.transfer(1, 0, 1);
    Checks.run(hall, 1, "Aq..Aq");
    hall.transfer(1, 1, 2);
    Checks.run(hall, 1, "Bs....Bs");
    hall.join(1, 1, 1, 0);
    hall.days(1, 9);
    hall.undo();
    hall.undo();
    Checks.same("the third log", hall.log(1), "Bs....Bs");
    hall.undo();
    Checks.same("the third log at first", hall.log(1), "");
    Checks.run(hall, 1, "CqCqCqCqCqCqCqCqCqCq");
    hall.undo();
    hall.undo();
    Checks.same("the second log", hall.log(1), "Aq..Aq");
    hall.undo();
    Checks.same("the second log at first", hall.log(1), "");
    Checks.run(hall, 1, FORTY_DAYS);
    hall.undo();
    hall.undo();
    Checks.same("the first log", hall.log(1), first);
    Checks.same("it is sound", hall.isSound(), true);
  }

  private static void manyUndone() {
    Checks.quote(15, "The last 8 can be undone.");
    Clausekeep hall = withLongOne();
    hall.join(1, 1, 0, 0);
    int calls = 7;
    // eight on and eight back again, as often as it goes
    for (; calls + 17 < CALLS - 80; calls += 17) {
      for (int i = 0; i < 8; i++) hall.days(0, i + 1);
      for (int i = 7; i >= 0; i--) Checks.same("undo", hall.undo(), i);
      hall.knock();
    }
    Checks.same("nothing came at last", hall.text(0), hall.text(1));
    Checks.same("its log", hall.log(0), "");
    Checks.badState(hall, "undo of one more", () -> hall.undo());
    Checks.same("days go on", hall.days(0, 9), 9);
    Checks.same("its log then", hall.log(0), ".........");
  }

  private static void greatestAccounts() {
    Checks.quote(27, "Returns its ACCOUNT.");
    Clausekeep hall = Checks.hall("~Ap9");
    hall.worth(1, 2, 0, 99);
    hall.worth(1, 2, 1, -99);
    int rows = 0;
    for (int calls = 5; calls + 8 < CALLS; calls += 8) {
      Checks.type(hall, TWENTY_ACTS);
      hall.run(0);
      rows++;
    }
    Checks.same("the greatest account", hall.account(0), rows * 20 * 99);
    Checks.same("the least account", hall.account(1), -rows * 20 * 99);
    Checks.same("no account", hall.account(2), 0);
  }

  /** Two turns with five events, of a clause in twelve TILLS: nothing that is tried on the way may be lost. */
  private static void dearestSure() {
    Checks.quote(39, "if turns is 2, and more than 5 EVENTS are those of the CONTRACT");
    Clausekeep hall = new Clausekeep();
    Checks.kept(hall, 0, "+Ap9&(+Aq9;+Aq9)&+Bp9");
    Checks.drawn(hall, 0, "#0" + Checks.times("@Bq", 12));
    int[] worths = {3, 5, -2, 4};
    for (int i = 0; i < 4; i++) hall.worth(i / 2, i % 2, 0, worths[i]);
    Checks.same("size", hall.ofContract(0, 1), 59);
    Checks.same("events", hall.ofContract(0, 7), 5);
    // Aq twice, for 10; B takes 2 of these by Bp, once
    for (int i = 0; i < 40; i++) Checks.same("sure", hall.sure(0, 0, 2), 8);
    Checks.same("sure of one turn", hall.sure(0, 0, 1), 3);
    Checks.same("sure of the other one", hall.sure(0, 1, 2), 0);
  }
}
