import java.math.BigInteger;

/** The boundary cases of promises 1 to 28, 40 and 41, but for what is thrown. */
final class BoundsOfCalls {
  private static final String FORTY = Checks.times("1&", 19) + "+A";

  private BoundsOfCalls() {
  }

  static void check() {
    newHall();
    say();
    sayOneByOne();
    wipe();
    name();
    nameMinusNine();
    unname();
    draw();
    joinSame();
    joinSize();
    act();
    days();
    run();
    runRow();
    transfer();
    waive();
    worth();
    fine();
    undoEight();
    undoWhatCounts();
    undoWhatDoesNot();
    undoBringsBack();
    blankAndKnock();
    paper();
    named();
    ofContract();
    dutiesAndDue();
    toldAndLog();
    accountAndHouse();
    sound();
    digest();
    digestOfNames();
  }

  // ---- the paper

  private static void newHall() {
    Checks.quote(1, "Creates a hall without contracts.");
    Clausekeep hall = new Clausekeep();
    Checks.same("signs, names, open ones", hall.house(0) + hall.house(1) + hall.house(2), 0);
    Checks.same("done ones", hall.house(3), 4);
    Checks.same("fine, undo, blanks, knocks", hall.house(4) + hall.house(5) + hall.house(6) + hall.house(7), 0);
    hall.knock();
    hall.blank();
    Checks.kept(hall, 3, "+Ap1");
    Checks.same("another one does not know of it", Checks.all(new Clausekeep()).contains("+Ap1"), false);
  }

  private static void say() {
    Checks.quote(2, "Types signs on the PAPER, one behind the other; at most 40 stand there (empty at first).");
    Clausekeep hall = new Clausekeep();
    Checks.same("empty at first", hall.paper(false), "");
    for (int i = 1; i <= 40; i++) Checks.same("one more", hall.say(-1, -1, -1, i % 10, -1, -1), i);
    String full = Checks.times("1234567890", 4);
    Checks.same("forty", hall.paper(false), full);
    Checks.same("nothing more", hall.say(-1, -1, -1, -1, -1, -1), 40);
    Checks.badState(hall, "one more than 40", () -> hall.say(1, -1, -1, -1, -1, -1));
    Checks.badState(hall, "six more than 40", () -> hall.say(1, 1, 1, 1, 1, 1));
    Clausekeep other = Checks.typed(full.substring(0, 35));
    Checks.badState(other, "six on 35", () -> other.say(1, 1, 1, 1, 1, 1));
    Checks.same("none of the six came", other.paper(false), full.substring(0, 35));
    Checks.same("five on 35", other.say(1, 1, -1, 1, 1, 1), 40);
    Checks.same("all of the five came", other.paper(false), full.substring(0, 35) + "11111");
    Clausekeep third = Checks.typed(full.substring(0, 34));
    Checks.same("six on 34", third.say(1, 1, 1, 1, 1, 1), 40);
    Checks.quote(2, "if there were more than 40");
    Checks.badState(third, "one on 40", () -> third.say(-1, -1, -1, -1, -1, 0));
    third.wipe();
    Checks.same("after wipe again", third.say(-1, -1, -1, -1, -1, 0), 1);
  }

  private static void sayOneByOne() {
    Checks.quote(2, "0 to 9 \"0\" to \"9\", 10 to 12 \"A\" to \"C\", 13 to 16 \"p\" to \"s\", 17 \"+\", 18 \"~\", 19 \"-\", 20 \"[\", 21 \"|\","
        + " 22 \"]\", 23 \"&\", 24 \"/\", 25 \";\", 26 \"@\", 27 \"#\", 28 \"*\", 29 \"(\", 30 \")\", 31 \".\"");
    String signs = "0123456789ABCpqrs+~-[|]&/;@#*().";
    for (int sign = 0; sign <= 31; sign++) {
      Clausekeep hall = new Clausekeep();
      hall.say(sign, -1, -1, -1, -1, sign);
      Checks.same("the sign " + sign, hall.paper(false), Checks.times(signs.substring(sign, sign + 1), 2));
    }
    Checks.quote(2, "- `a`: the number of a sign, or NONE for nothing:");
    for (int nth = 0; nth < 6; nth++) {
      int[] s = {-1, -1, -1, -1, -1, -1};
      s[nth] = 10;
      Clausekeep hall = new Clausekeep();
      Checks.same("a sign alone", hall.say(s[0], s[1], s[2], s[3], s[4], s[5]), 1);
      s = new int[] {0, 1, 2, 3, 4, 5};
      s[nth] = -1;
      Checks.same("all but one", hall.say(s[0], s[1], s[2], s[3], s[4], s[5]), 6);
      Checks.same("what stands there", hall.paper(false), "A" + "012345".replace("" + nth, ""));
    }
  }

  private static void wipe() {
    Checks.quote(3, "The PAPER is empty then.");
    Clausekeep hall = new Clausekeep();
    Checks.same("wipe of an empty one", hall.wipe(), 0);
    Checks.type(hall, FORTY);
    Checks.same("wipe of a full one", hall.wipe(), 40);
    Checks.same("the paper", hall.paper(false) + hall.house(0), "0");
    Checks.same("wipe again", hall.wipe(), 0);
    Checks.type(hall, "1");
    Checks.same("what stood there is gone", hall.paper(false), "1");
  }

  // ---- names

  private static void name() {
    Checks.quote(4, "Keeps the CLAUSE that stands on the PAPER by a NAME (instead of another one).");
    Clausekeep hall = new Clausekeep();
    for (int name = 0; name <= 5; name++) {
      Checks.type(hall, "+Ap" + name);
      Checks.same("name " + name, hall.name(name), 4);
      Checks.same("how many are kept", hall.house(1), name + 1);
    }
    Checks.type(hall, "#0&#5");
    Checks.same("instead of another one", hall.name(5), 9);
    Checks.same("what is kept", hall.named(5), "+Ap0&+Ap5");
    Checks.same("still six", hall.house(1), 6);
    for (int name = 0; name <= 4; name++) Checks.same("others stay", hall.named(name), "+Ap" + name);
    Checks.type(hall, "1");
    Checks.same("a done one", hall.name(0), 1);
    Checks.type(hall, "0C");
    Checks.same("a broken one", hall.name(1), 2);
    Checks.quote(4, "The PAPER is empty then, if it was kept.");
    Checks.same("the paper", hall.paper(false), "");
    Checks.type(hall, "#0;#1;");
    Checks.same("not kept", hall.name(0), -9);
    Checks.same("the paper stays", hall.paper(false), "#0;#1;");
  }

  private static void nameMinusNine() {
    Checks.quote(4, "Returns its SIZE; -9, if the PAPER has a FAULT or is GREAT.");
    Clausekeep hall = new Clausekeep();
    Checks.minusNine(hall, "name of an empty paper", () -> hall.name(0));
    Checks.kept(hall, 0, "+Ap1");
    for (String text : new String[] {"+Ap", "#1", "(1", "1)", "Ap.", FORTY, Checks.rowOfSize("+Ap1", 61)}) {
      hall.wipe();
      Checks.type(hall, text);
      for (int name = 0; name <= 5; name++) {
        int place = name;
        Checks.minusNine(hall, "name of " + text, () -> hall.name(place));
      }
    }
    hall.wipe();
    Checks.type(hall, Checks.rowOfSize("+Ap1", 60));
    Checks.same("name of 60 signs", hall.name(5), 60);
  }

  private static void unname() {
    Checks.quote(5, "Returns how many are left.");
    Clausekeep hall = new Clausekeep();
    for (int name = 0; name <= 5; name++) Checks.kept(hall, name, "+Bq" + name);
    Checks.type(hall, "#0&#5");
    for (int name = 5; name >= 0; name--) {
      Checks.same("unname", hall.unname(name), name);
      Checks.same("it is gone", hall.named(name), "-");
      if (name > 0) Checks.same("the next one stays", hall.named(name - 1), "+Bq" + (name - 1));
    }
    Checks.same("the paper stays", hall.paper(false), "#0&#5");
    Checks.same("what it says is a fault", hall.fault(), 1);
  }

  // ---- contracts

  private static void draw() {
    Checks.quote(6, "The PAPER is empty then, if it was drawn.");
    Clausekeep hall = Checks.typed("+Ap1");
    Checks.same("drawn", hall.draw(0), 4);
    Checks.same("the paper", hall.paper(false), "");
    Checks.quote(6, "Returns its SIZE; -9, if the PAPER has a FAULT or is GREAT.");
    Checks.minusNine(hall, "draw of an empty paper", () -> hall.draw(0));
    for (String text : new String[] {"+Ap", "#1", "(1", "1)", "Ap.", FORTY, Checks.rowOfSize("+Ap1", 61)}) {
      hall.wipe();
      Checks.type(hall, text);
      for (int contract = 0; contract <= 3; contract++) {
        int place = contract;
        Checks.minusNine(hall, "draw of " + text, () -> hall.draw(place));
      }
    }
    hall.wipe();
    Checks.type(hall, Checks.rowOfSize("+Ap1", 60));
    Checks.same("draw of 60 signs", hall.draw(3), 60);
    Checks.type(hall, "1");
    Checks.same("draw of one sign", hall.draw(3), 1);
  }

  private static void joinSame() {
    Checks.quote(7, "- `other`: another one, or the same");
    Clausekeep hall = Checks.hall("+Ap1", "+Bq1/+Cr1", "0B");
    for (int how = 0; how <= 1; how++) {
      for (int contract = 0; contract <= 3; contract++) {
        String text = hall.text(contract);
        Checks.same("with itself", hall.join(contract, contract, contract, how), text.length());
        Checks.same("it is itself", hall.text(contract), text);
      }
    }
    Checks.same("behind itself", hall.join(0, 0, 0, 2), 9);
    Checks.same("it is behind itself", hall.text(0), "+Ap1;+Ap1");
    Checks.same("the one is the other one, too", hall.join(1, 0, 1, 2), 19);
    Checks.same("the other one behind the one", hall.text(1), "+Bq1/+Cr1;+Ap1;+Ap1");
    Checks.same("the other one is told", hall.join(0, 3, 3, 2), 9);
    Checks.same("a broken one behind", hall.join(3, 2, 3, 2), 12);
    Checks.same("its text", hall.text(3), "+Ap1;+Ap1;0B");
    Checks.same("behind a broken one", hall.join(2, 0, 2, 2), 2);
    Checks.type(hall, "+Cs");
    hall.join(0, 0, 0, 0);
    Checks.same("the paper stays", hall.paper(false), "+Cs");
  }

  /** Two rows of ";": by ";" one sign comes between them, by "&" and "/" four brackets, too. */
  private static void joinSize() {
    Checks.quote(7, "Returns its SIZE; -9, if it were above 60 (nothing is changed then).");
    for (int how = 0; how <= 2; how++) {
      int most = how == 2 ? 30 : 26;
      for (int size = most - 1; size <= most + 2; size++) {
        Clausekeep hall = Checks.hall(Checks.rowOfSize("+Ap1", 29), Checks.rowOfSize("+Bp1", size), "-Cs5", "~Cr3");
        Checks.type(hall, "+Cs");
        hall.days(2, 1);
        int joined = 60 + size - most;
        int way = how;
        if (joined > 60) {
          for (int to = 0; to <= 3; to++) {
            int place = to;
            Checks.minusNine(hall, "join to " + joined, () -> hall.join(0, 1, place, way));
          }
        } else {
          Checks.same("join to " + joined, hall.join(0, 1, 2, how), joined);
          Checks.same("its size", hall.text(2).length(), joined);
          Checks.same("its log", hall.log(2), "");
        }
      }
    }
    Clausekeep hall = Checks.hall(Checks.rowOfSize("+Ap1", 60), "0B");
    Checks.same("60 with a broken one", hall.join(0, 1, 2, 0), 2);
    Checks.same("60 or a broken one", hall.join(0, 1, 2, 1), 60);
    Checks.same("60 or a done one", hall.join(0, 3, 2, 1), 1);
    Checks.minusNine(hall, "a broken one behind 60", () -> hall.join(0, 1, 2, 2));
    Checks.same("60 behind a broken one", hall.join(1, 0, 2, 2), 2);
  }

  private static void act() {
    Checks.quote(8, "Returns STATE then; -9, if it is not OPEN (nothing is changed then).");
    Clausekeep hall = Checks.hall("~Ap1[+Bq1|1]", "0A", "0C");
    hall.worth(0, 0, 0, 5);
    hall.worth(1, 1, 0, 5);
    hall.fine(9);
    for (int i = 0; i < 12; i++) {
      int party = i / 4;
      int act = i % 4;
      Checks.minusNine(hall, "act of a broken one", () -> hall.act(1, party, act));
      Checks.minusNine(hall, "act of one broken by C", () -> hall.act(2, party, act));
      Checks.minusNine(hall, "act of a done one", () -> hall.act(3, party, act));
    }
    Checks.same("open then", hall.act(0, 0, 0), 0);
    Checks.same("done then", hall.act(0, 1, 1), 1);
    Checks.minusNine(hall, "an act more", () -> hall.act(0, 1, 1));
    Checks.same("its log", hall.log(0), "ApBq");
  }

  private static void days() {
    Checks.quote(9, "- `days`: how many, at most (till it is not OPEN)");
    for (int days = 1; days <= 9; days++) {
      Clausekeep hall = Checks.hall("+Ap4", "+Ap9", "+Ap9", "0B");
      Checks.same(days + " days of five", hall.days(0, days), Math.min(days, 5));
      Checks.same("its log", hall.log(0), Checks.times(".", Math.min(days, 5)));
      Checks.same("its state", hall.ofContract(0, 0), days < 5 ? 0 : 2);
      Checks.same(days + " days of ten", hall.days(1, days), days);
      Checks.same("its text", hall.text(1), "+Ap" + (9 - days));
      Checks.same(days + " days of a broken one", hall.days(3, days), 0);
      Checks.same("no day for others", hall.text(2), "+Ap9");
    }
    Clausekeep hall = Checks.hall("+Ap9");
    Checks.same("nine", hall.days(0, 9), 9);
    Checks.same("the tenth alone", hall.days(0, 9), 1);
    Checks.same("none any more", hall.days(0, 9), 0);
    Checks.same("the log of ten", hall.log(0), "..........");
  }

  private static void run() {
    Checks.quote(10, "The ROW that stands on the PAPER comes to a CONTRACT, EVENT by EVENT, till it is not OPEN. The PAPER is"
        + " empty then, if it is a ROW.");
    Clausekeep hall = Checks.hall("~Ap1;+Bq1", "+Ap1", "~Cs9;~Cs9", "~Cs9;~Cs9");
    Checks.same("events till it is done", Checks.run(hall, 0, "Ap.BqBq.Ap"), 3);
    Checks.same("its log", hall.log(0), "Ap.Bq");
    Checks.same("the paper", hall.paper(false), "");
    Checks.same("events of a done one", Checks.run(hall, 0, "Ap."), 0);
    Checks.same("the paper then", hall.paper(false), "");
    Checks.same("events till it is broken", Checks.run(hall, 1, "BqBq...."), 4);
    Checks.same("its log then", hall.log(1), "BqBq..");
    Checks.same("forty days", Checks.run(hall, 2, Checks.times(".", 40)), 20);
    Checks.same("twenty acts", Checks.run(hall, 3, Checks.times("Br", 20)), 20);
    Checks.same("the log of twenty acts", hall.log(3), Checks.times("Br", 20));
    Checks.quote(10, "(an empty one is a ROW of none)");
    int before = hall.house(5);
    String log = hall.log(3);
    for (int contract = 0; contract <= 3; contract++) Checks.same("an empty row", Checks.run(hall, contract, ""), 0);
    Checks.same("the log after that", hall.log(3), log);
    Checks.same("it can be undone", before, 8);
    Checks.same("an empty row of a new hall", new Clausekeep().run(0), 0);
  }

  private static void runRow() {
    Checks.quote(10, "Returns how many EVENTS came; -9, if the PAPER is no ROW");
    Clausekeep hall = Checks.hall("~Ap9");
    String[] bads = {"A", "p", "Ap.A", "Ap.p", "pA", "AA", "pp", "A.", ".p", "1", "0A", "+Ap1", "Ap1", "1Ap", "Ap#",
        "..;", "A-", "-p", Checks.times(".", 39) + "A", Checks.times("Ap", 19) + "pA", "(Ap)", "Ap@"};
    for (String bad : bads) {
      hall.wipe();
      Checks.type(hall, bad);
      Checks.minusNine(hall, "run of " + bad, () -> hall.run(0));
      Checks.minusNine(hall, "run of " + bad + " for a done one", () -> hall.run(3));
    }
    for (int i = 0; i < 12; i++) {
      String event = "" + "ABC".charAt(i / 4) + "pqrs".charAt(i % 4);
      Clausekeep other = Checks.hall("~Ap9;~Ap9");
      Checks.same("run of " + event, Checks.run(other, 0, event + "."), 2);
      Checks.same("its log", other.log(0), event + ".");
    }
  }

  private static void transfer() {
    Checks.quote(11, "- `to`: the other one, or the same");
    Clausekeep hall = Checks.hall("+Ap1[-Bq1|0C]@Cs&+Bp1");
    hall.act(0, 2, 0);
    for (int party = 0; party < 3; party++) {
      Checks.same("to the same", hall.transfer(0, party, party), 21);
      Checks.same("its text", hall.text(0), "+Ap1[-Bq1|0C]@Cs&+Bp1");
    }
    Checks.same("its log", hall.log(0), "");
    Checks.quote(11, "All DUTIES of a PARTY in a CONTRACT (in ENDS, too, and TILL) are another one's from now on, all BROKEN by"
        + " it, too.");
    Checks.same("C's go to A", hall.transfer(0, 2, 0), 21);
    Checks.same("its text then", hall.text(0), "+Ap1[-Bq1|0A]@As&+Bp1");
    Checks.same("B's go to A", hall.transfer(0, 1, 0), hall.text(0).length());
    Checks.same("all of A", hall.text(0), "+Ap1&+Ap1[-Aq1|0A]@As");
    Checks.drawn(hall, 1, "+Ap1[1|0B]");
    Checks.same("an end that is as without", hall.transfer(1, 0, 1), 4);
    Checks.drawn(hall, 1, "+Ap1[1|0B]");
    Checks.same("an end that is as without, for A", hall.transfer(1, 1, 0), 4);
    Checks.drawn(hall, 2, "0A");
    Checks.same("a broken one", hall.transfer(2, 0, 2), 2);
    Checks.same("broken by another one", hall.ofContract(2, 0), 4);
    Checks.same("not its own", hall.transfer(2, 0, 1), 2);
    Checks.same("broken by C still", hall.text(2), "0C");
    Checks.same("a done one", hall.transfer(3, 0, 1), 1);
    Checks.drawn(hall, 3, "+Ap1/+Bp1");
    Checks.same("two that are one", hall.transfer(3, 1, 0), 4);
    Checks.same("what nobody has", hall.transfer(3, 2, 1), 4);
  }

  private static void waive() {
    Checks.quote(12, "Returns STATE then; -9, if it is no BOTH with such a PART (nothing is changed then).");
    Clausekeep hall = Checks.hall("+Ap1&+Bq1&+Cr1", "+Ap1/+Bq1", "+Ap1;+Bq1&+Cr1", "(+Ap1&+Bq1)@Cs");
    hall.days(0, 1);
    for (int nth : new int[] {3, 4, Integer.MAX_VALUE}) {
      Checks.minusNine(hall, "waive of " + nth, () -> hall.waive(0, nth));
    }
    for (int contract = 1; contract <= 3; contract++) {
      int place = contract;
      for (int nth = 0; nth <= 2; nth++) {
        int part = nth;
        Checks.minusNine(hall, "waive of no both", () -> hall.waive(place, part));
      }
    }
    Checks.quote(12, "- `nth`: which PART");
    String[] due = {"+Bq0&+Cr0", "+Ap0&+Cr0", "+Ap0&+Bq0"};
    for (int nth = 0; nth <= 2; nth++) {
      Checks.same("waive", hall.waive(0, nth), 0);
      Checks.same("what is left", hall.text(0), due[nth]);
      if (nth < 2) hall.undo();
    }
    Checks.same("waive of the last but one", hall.waive(0, 1), 0);
    Checks.same("a part alone", hall.text(0), "+Ap0");
    Checks.minusNine(hall, "waive of a part alone", () -> hall.waive(0, 0));
    Checks.drawn(hall, 0, "0A");
    Checks.minusNine(hall, "waive of a broken one", () -> hall.waive(0, 0));
    Checks.minusNine(new Clausekeep(), "waive of a done one", () -> hall.waive(0, 0));
    Checks.drawn(hall, 0, "+Ap1&(+Bq1;+Cr1)");
    hall.waive(0, 0);
    Checks.same("a row alone", hall.text(0), "+Bq1;+Cr1");
  }

  private static void worth() {
    Checks.quote(13, "Returns that before.");
    Clausekeep hall = new Clausekeep();
    for (int i = 0; i < 36; i++) Checks.same("at first", hall.worth(i / 12, i / 3 % 4, i % 3, -99), 0);
    for (int i = 0; i < 36; i++) Checks.same("the least", hall.worth(i / 12, i / 3 % 4, i % 3, 99), -99);
    for (int i = 0; i < 36; i++) Checks.same("the greatest", hall.worth(i / 12, i / 3 % 4, i % 3, 99), 99);
    Checks.quote(13, "- `whom`: for which PARTY");
    Checks.same("nothing else", hall.worth(2, 3, 2, 0), 99);
    Checks.same("for another one", hall.worth(2, 3, 1, 0), 99);
    Checks.same("for the one", hall.worth(2, 3, 2, 7), 0);
  }

  private static void fine() {
    Checks.quote(14, "Returns that before.");
    Clausekeep hall = new Clausekeep();
    Checks.same("at first", hall.fine(99), 0);
    Checks.same("the greatest", hall.fine(0), 99);
    Checks.same("the least", hall.fine(0), 0);
    Checks.same("it is told", hall.house(4), 0);
  }

  // ---- undo

  private static void undoEight() {
    Checks.quote(15, "The last 8 can be undone.");
    for (int many = 0; many <= 20; many++) {
      Clausekeep hall = new Clausekeep();
      for (int i = 1; i <= many; i++) hall.fine(i);
      int can = Math.min(many, 8);
      Checks.same("how many of " + many, hall.house(5), can);
      for (int i = 1; i <= can; i++) {
        Checks.same("undo", hall.undo(), can - i);
        Checks.same("what is told then", hall.house(5), can - i);
        Checks.same("fine then", hall.house(4), many - i);
      }
      Checks.badState(hall, "one more than " + can, () -> hall.undo());
    }
    Clausekeep hall = new Clausekeep();
    for (int i = 1; i <= 12; i++) hall.fine(i);
    for (int i = 0; i < 5; i++) hall.undo();
    for (int i = 21; i <= 24; i++) hall.fine(i);
    Checks.same("three and four more", hall.house(5), 7);
    int[] due = {23, 22, 21, 7, 6, 5, 4};
    for (int fine : due) {
      hall.undo();
      Checks.same("fine then", hall.house(4), fine);
    }
    Checks.badState(hall, "undo of none", () -> hall.undo());
  }

  private static void undoWhatCounts() {
    Checks.quote(15, "The last of the calls of this section (but undo(), blank(), knock()) and of name() and unname() that was"
        + " done (neither refused nor -9; days() and run() also with 0) is undone:");
    Clausekeep hall = Checks.hall("+Ap3&+Bq3", "0A");
    Checks.kept(hall, 0, "+Ap1");
    Checks.Call[] calls = {() -> hall.draw(3), () -> hall.name(4), () -> hall.join(0, 0, 0, 0), () -> hall.act(0, 2, 2),
        () -> hall.days(0, 1), () -> hall.days(1, 9), () -> hall.run(0), () -> hall.run(1), () -> hall.transfer(0, 1, 1),
        () -> hall.waive(0, 0), () -> hall.worth(0, 0, 0, 0), () -> hall.fine(0), () -> hall.unname(0)};
    for (int i = 0; i < calls.length; i++) {
      hall.wipe();
      if (i < 2) Checks.type(hall, "1");
      String before = Checks.held(hall);
      Checks.same("how many ahead of call " + i, hall.house(5), 3);
      calls[i].answer();
      Checks.same("how many after call " + i, hall.house(5), 4);
      Checks.same("undo of call " + i, hall.undo(), 3);
      Checks.same("what is held after undo of call " + i, Checks.held(hall), before);
    }
  }

  private static void undoWhatDoesNot() {
    Checks.quote(15, "(neither refused nor -9;");
    Clausekeep hall = Checks.hall("+Ap3", "0A", Checks.rowOfSize("+Ap1", 60));
    Checks.type(hall, "1;");
    Checks.Call[] minusNines = {() -> hall.draw(0), () -> hall.name(0), () -> hall.join(0, 2, 0, 2), () -> hall.act(1, 0, 0),
        () -> hall.run(0), () -> hall.waive(0, 0), () -> hall.blank()};
    for (Checks.Call call : minusNines) Checks.same("a call", call.answer(), -9);
    Checks.badPlace(hall, "draw", () -> hall.draw(4));
    Checks.badPlace(hall, "unname", () -> hall.unname(0));
    Checks.badNumber(hall, "days", () -> hall.days(0, 0));
    Checks.badNumber(hall, "fine", () -> hall.fine(100));
    hall.knock();
    hall.wipe();
    hall.say(1, 2, 3, 4, 5, 6);
    hall.paper(true);
    hall.digest();
    hall.sure(0, 0, 2);
    Checks.same("how many", hall.house(5), 3);
    Checks.same("undo", hall.undo(), 2);
    Checks.same("the last draw is undone", hall.text(2), "1");
    Checks.quote(15, "(the PAPER stays)");
    Checks.same("the paper stays", hall.paper(false), "123456");
    Checks.same("blank and knock stay", hall.house(6) * 10 + hall.house(7), 11);
    Checks.drawn(hall, 3, "+Bq1");
    hall.undo();
    Checks.same("what was drawn does not come back", hall.paper(false), "");
  }

  private static void undoBringsBack() {
    Checks.quote(15, "CONTRACTS, what they were when they were TOLD last, LOGS, NAMES, WORTHS, FINE, ACCOUNTS are as ahead of"
        + " it (the PAPER stays).");
    Clausekeep hall = Checks.hall("+Ap9&+Bq9", "-Cr9", "~Ap3");
    for (int round = 0; round < 4; round++) {
      String[] helds = new String[10];
      for (int i = 0; i < 10; i++) {
        helds[i] = Checks.held(hall);
        change(hall, round, i);
      }
      for (int i = 9; i >= 2; i--) {
        hall.undo();
        Checks.same("what is held ahead of call " + i + " of round " + round, Checks.held(hall), helds[i]);
      }
    }
    hall.worth(2, 3, 0, -5);
    hall.worth(2, 3, 0, 6);
    hall.days(0, 1);
    hall.undo();
    hall.undo();
    Checks.same("a worth as ahead of it", hall.worth(2, 3, 0, 1), -5);
  }

  private static void change(Clausekeep hall, int round, int nth) {
    switch (nth) {
      case 0: Checks.kept(hall, round, "-Bp" + round); break;
      case 1: hall.fine(10 + round); break;
      case 2: hall.act(0, 0, 3); break;
      case 3: hall.days(1, 2); break;
      case 4: hall.join(0, 1, 3, round % 3); break;
      case 5: hall.transfer(0, round % 3, (round + 1) % 3); break;
      case 6: Checks.run(hall, 2, "Ap."); break;
      case 7: Checks.drawn(hall, 2, "~Bp" + round); break;
      case 8: hall.unname(round); break;
      default: hall.days(0, 1); break;
    }
  }

  private static void blankAndKnock() {
    Checks.quote(16, "Returns -9.");
    Clausekeep hall = new Clausekeep();
    for (int i = 1; i <= 20; i++) {
      Checks.same("blank", hall.blank(), -9);
      Checks.same("how often", hall.house(6), i);
    }
    Checks.quote(16, "Draws a clause out of an empty drawer: it is counted.");
    hall.draw(0);
    hall.name(0);
    Checks.same("by blank() alone", hall.house(6), 20);
    Checks.same("nothing was drawn", hall.text(0), "1");
    Checks.quote(17, "Returns how often ever, with this.");
    for (int i = 1; i <= 20; i++) {
      Checks.same("knock", hall.knock(), i);
      Checks.same("how often", hall.house(7), i);
    }
    hall.fine(1);
    hall.undo();
    Checks.same("ever", hall.knock(), 21);
  }

  // ---- what is asked

  private static void paper() {
    Checks.quote(18, "- `isRead`: whether TEXT of the CLAUSE that stands on the PAPER (\"!\" with a FAULT, or if it is GREAT),"
        + " otherwise the PAPER as it is");
    String[] texts = {"", "1", "1&", "(+Bq1&+Ap1)", "#0", "((((((1", FORTY, Checks.times("1&", 19) + "0B", "Ap.",
        Checks.rowOfSize("+Ap1", 61), "2*+Ap1", "1&1"};
    String[] due = {"!", "1", "!", "+Ap1&+Bq1", "!", "!", "!", "0B", "!", "!", "+Ap1;+Ap1", "1"};
    for (int i = 0; i < texts.length; i++) {
      Clausekeep hall = Checks.typed(texts[i]);
      Checks.same("read of " + texts[i], hall.paper(true), due[i]);
      Checks.same("as it is", hall.paper(false), texts[i]);
    }
    Clausekeep hall = Checks.typed(Checks.rowOfSize("+Ap1", 60));
    Checks.same("60 signs", hall.paper(true).length(), 60);
  }

  private static void named() {
    Checks.quote(20, "\"-\" if nothing is kept by it.");
    Clausekeep hall = new Clausekeep();
    for (int name = 0; name <= 5; name++) Checks.same("at first", hall.named(name), "-");
    Checks.kept(hall, 0, "+Ap0");
    Checks.kept(hall, 5, Checks.rowOfSize("+Ap1", 60));
    for (int name = 1; name <= 4; name++) Checks.same("between", hall.named(name), "-");
    Checks.same("the first one", hall.named(0), "+Ap0");
    Checks.same("the last one", hall.named(5).length(), 60);
    hall.unname(0);
    Checks.same("gone", hall.named(0), "-");
    hall.undo();
    Checks.same("back", hall.named(0), "+Ap0");
  }

  private static void ofContract() {
    Checks.quote(22, "0 STATE, 1 SIZE, 2 what it is: 0 DONE or BROKEN, 1 a DUTY, 2 BOTH, 3 EITHER, 4 BEHIND, 5 TILL; 3 how many"
        + " PARTS (2 of BEHIND, 1 of TILL, 0 of those without), 4 how many EVENTS its LOG has, 5 how many DUTIES are NOW, 6 how"
        + " many of these are \"+\", 7 how many EVENTS it has");
    String[] texts = {"1", "0A", "0C", "-Ap1[+Bq1&+Cr1|1]", "+Ap1&-Aq1&+Ap1[1|1]", "~Ap1/-Bp1", "+Ap1;+Ap1;+Ap1;+Ap1",
        "(+Ap1&+Bq1)@Cr", "+Ap1@Bq@Cr@Cs", "+Ap1&+Bq1;-As1"};
    int[][] due = {{1, 1, 0, 0, 0, 0, 0, 1}, {2, 2, 0, 0, 0, 0, 0, 1}, {4, 2, 0, 0, 0, 0, 0, 1}, {0, 17, 1, 0, 0, 1, 0, 4},
        {0, 19, 2, 3, 0, 2, 1, 3}, {0, 9, 3, 2, 0, 2, 0, 3}, {0, 19, 4, 2, 0, 1, 1, 2}, {0, 14, 5, 1, 0, 2, 2, 4},
        {0, 13, 5, 1, 0, 1, 1, 5}, {0, 14, 4, 2, 0, 2, 2, 4}};
    for (int i = 0; i < texts.length; i++) {
      for (int contract = 0; contract <= 3; contract += 3) {
        Clausekeep hall = new Clausekeep();
        Checks.drawn(hall, contract, texts[i]);
        for (int what = 0; what <= 7; what++) {
          Checks.same("ofContract " + what + " of " + texts[i], hall.ofContract(contract, what), due[i][what]);
        }
      }
    }
    Clausekeep hall = Checks.hall("~Ap9");
    hall.days(0, 9);
    hall.act(0, 1, 0);
    Checks.same("ten events, eleven signs", hall.ofContract(0, 4) * 100 + hall.log(0).length(), 1011);
  }

  private static void dutiesAndDue() {
    Checks.quote(23, "Returns the DUTIES that are NOW, with a blank between two; \"\" without any.");
    Clausekeep hall = Checks.hall("0B", "+Ap1", "-Ap1&+Ap1&~Cs9", "+Ap3&+Ap0&-Ap9&+Aq5&(+Ap7/~Bp1)");
    Checks.same("of a done one", new Clausekeep().duties(0), "");
    Checks.same("of a broken one", hall.duties(0), "");
    Checks.same("one", hall.duties(1), "+Ap1");
    Checks.same("three", hall.duties(2), "+Ap1 -Ap1 ~Cs9");
    Checks.quote(24, "Returns the smallest DAYS of the \"+\" DUTIES of both that are NOW, NONE without one.");
    Checks.same("the smallest", hall.due(3, 0, 0), 0);
    Checks.same("the only one", hall.due(3, 0, 1), 5);
    Checks.same("of a party that may", hall.due(3, 1, 0), -1);
    Checks.same("of one that must not", hall.due(2, 0, 0), 1);
    Checks.same("of the last act", hall.due(2, 2, 3), -1);
    Checks.same("of a broken one", hall.due(0, 1, 0), -1);
    Checks.same("of a done one", new Clausekeep().due(0, 0, 0), -1);
    Checks.drawn(hall, 0, "+Ap9;+Ap3");
    Checks.same("behind", hall.due(0, 0, 0), 9);
    Checks.drawn(hall, 0, "+Cs9[+Cr3|+Cq2]@Bq");
    Checks.same("in till", hall.due(0, 2, 3), 9);
    Checks.same("in ends", hall.due(0, 2, 2) + hall.due(0, 2, 1) + hall.due(0, 1, 1), -3);
  }

  private static void toldAndLog() {
    Checks.quote(25, "Returns the TEXT that it had when it was TOLD last (\"1\" if it never was).");
    Clausekeep hall = new Clausekeep();
    for (int contract = 0; contract <= 3; contract++) Checks.same("never told", hall.told(contract), "1");
    Checks.drawn(hall, 3, "+Ap2;+Bq2");
    hall.act(3, 0, 0);
    Checks.same("told last", hall.told(3), "+Ap2;+Bq2");
    Checks.same("others never", hall.told(2), "1");
    hall.transfer(3, 1, 2);
    Checks.same("told by a transfer", hall.told(3), "+Cq2");
    hall.undo();
    hall.undo();
    hall.undo();
    Checks.same("never told again", hall.told(3), "1");
    Checks.quote(26, "Returns its LOG.");
    Checks.same("of one that never was told", hall.log(3), "");
    Checks.drawn(hall, 0, "~Ap9");
    for (int i = 0; i < 12; i++) hall.act(0, i < 1 ? 1 : i / 4, i < 1 ? 3 : i % 4);
    hall.days(0, 9);
    Checks.same("all events", hall.log(0), "BsAqArAsBpBqBrBsCpCqCrCs.........");
  }

  private static void accountAndHouse() {
    Checks.quote(27, "Returns its ACCOUNT.");
    Clausekeep hall = Checks.hall("~Ap9");
    for (int whom = 0; whom < 3; whom++) hall.worth(1, 1, whom, whom * 99 - 99);
    for (int i = 0; i < 30; i++) hall.act(0, 1, 1);
    for (int whom = 0; whom < 3; whom++) Checks.same("account", hall.account(whom), 30 * (whom * 99 - 99));
    Checks.quote(28, "0 signs on the PAPER, 1 NAMES that are kept, 2 OPEN CONTRACTS, 3 DONE ones, 4 FINE, 5 how many can be"
        + " undone, 6 how often -9 was told by blank(), 7 how often it was knocked");
    hall = new Clausekeep();
    Checks.same("done at first", hall.house(3), 4);
    for (int i = 0; i < 4; i++) {
      Checks.drawn(hall, i, i == 2 ? "0C" : "+Ap1");
      int broken = i < 2 ? 0 : 1;
      Checks.same("open ones", hall.house(2), i + 1 - broken);
      Checks.same("done ones", hall.house(3), 3 - i);
    }
    for (int i = 0; i < 6; i++) Checks.kept(hall, i, "1");
    Checks.same("names", hall.house(1), 6);
    Checks.type(hall, FORTY);
    Checks.same("signs", hall.house(0), 40);
    hall.fine(99);
    Checks.same("fine", hall.house(4), 99);
    Checks.same("undo", hall.house(5), 8);
  }

  // ---- all of it

  private static void sound() {
    Checks.quote(40, "Returns whether all is SOUND: each CONTRACT, joined with itself by BOTH, and by EITHER, is itself; what it"
        + " was when it was TOLD last, with its LOG run again, is what it is; and each pair of CONTRACTS, joined by BOTH, has"
        + " the same TEXT either way round, by EITHER, too.");
    Checks.same("a new one", new Clausekeep().isSound(), true);
    Clausekeep hall = Checks.hall(Checks.rowOfSize("+Ap1", 60), Checks.rowOfSize("-Cp9", 60), "0B", "(+Ap1/+Bq1)&~Cr3");
    Checks.same("with 60 signs each", hall.isSound(), true);
    String before = Checks.all(hall);
    hall.isSound();
    Checks.same("it changes nothing", Checks.all(hall), before);
    hall.days(0, 9);
    hall.days(1, 9);
    Checks.run(hall, 1, "Cp.CsBpCpBqCr");
    hall.act(3, 2, 2);
    Checks.same("after events", hall.isSound(), true);
    for (int i = 0; i < 4; i++) hall.undo();
    Checks.same("after undo", hall.isSound(), true);
  }

  /** The document's sum without any wrapping, and cut to 64 bits at last. */
  private static long sum(Clausekeep hall) {
    java.util.List<Long> all = new java.util.ArrayList<>();
    for (int what = 0; what <= 7; what++) all.add((long) hall.house(what));
    all.add((long) hall.fault());
    for (int name = 0; name <= 5; name++) {
      if (hall.named(name).equals("-")) continue;
      all.add((long) name);
      all.add((long) hall.named(name).length());
    }
    for (int contract = 0; contract <= 3; contract++) {
      for (int what = 0; what <= 7; what++) all.add((long) hall.ofContract(contract, what));
      for (char sign : hall.text(contract).toCharArray()) all.add((long) sign);
      all.add((long) hall.duties(contract).length());
      all.add((long) hall.log(contract).length());
    }
    for (int party = 0; party <= 2; party++) all.add((long) hall.account(party));
    all.add((long) hall.reached(0));
    all.add(hall.isSound() ? 1L : 0L);
    BigInteger d = BigInteger.valueOf(7901);
    for (long v : all) d = d.multiply(BigInteger.valueOf(31)).add(BigInteger.valueOf(v));
    Checks.same("whether it wraps around", d.bitLength() > 64, true);
    return d.longValue();
  }

  private static void digest() {
    Checks.quote(41, "A number d starts with 7901; for each of the following numbers v, d becomes d * 31 + v, which wraps around"
        + " as a 64-bit integer: house() of 0 to 7; fault();");
    Clausekeep hall = new Clausekeep();
    Checks.same("digest of a new one", hall.digest(), sum(hall));
    boolean isAbove = false;
    boolean isBelow = false;
    for (int i = 0; i < 12; i++) {
      Checks.type(hall, "~A" + (i % 3 == 0 ? "p" : "") + i % 10);
      Checks.same("digest with a paper", hall.digest(), sum(hall));
      isAbove |= hall.digest() > 0;
      isBelow |= hall.digest() < 0;
      hall.draw(i % 4);
      hall.wipe();
      hall.worth(0, 0, i % 3, -9 * i);
      hall.act(0, 0, 0);
      hall.fine(i);
      hall.blank();
      hall.knock();
    }
    Checks.same("above and below 0", isAbove && isBelow, true);
    Checks.quote(41, "CONTRACT by CONTRACT ofContract() of 0 to 7, the codes of the signs of text(), the lengths of duties() and"
        + " of log(); account() of 0 to 2; reached() of the CONTRACT 0;");
    hall = Checks.hall("+Ap9;+Bq9;+Cr6", Checks.rowOfSize("+Ap1", 60), "-Ap3&+Ap3&~Cs9", "0C");
    for (int whom = 0; whom <= 2; whom++) hall.worth(1, 1, whom, 40 - 50 * whom);
    Checks.same("digest with too many", hall.digest(), sum(hall));
    hall.days(0, 9);
    hall.act(2, 1, 1);
    hall.days(2, 2);
    Checks.same("digest with logs", hall.digest(), sum(hall));
    Checks.quote(41, "1 if isSound(), otherwise 0.");
    hall.undo();
    Checks.same("digest after undo", hall.digest(), sum(hall));
  }

  private static void digestOfNames() {
    Checks.quote(41, "NAME by NAME that is kept its number and SIZE;");
    Clausekeep hall = new Clausekeep();
    for (int bits = 0; bits < 64; bits++) {
      for (int name = 0; name <= 5; name++) {
        boolean isKept = !hall.named(name).equals("-");
        if ((bits >> name & 1) == 0 && isKept) hall.unname(name);
        if ((bits >> name & 1) == 1 && !isKept) Checks.kept(hall, name, name == 0 ? "1" : Checks.times("+Ap1;", name) + "0A");
      }
      Checks.same("digest with names " + bits, hall.digest(), sum(hall));
    }
  }
}
