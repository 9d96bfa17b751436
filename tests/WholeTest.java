import java.util.Random;

/** Promises 40 and 41, and what holds for all calls: nothing is thrown by the machine, however they come. */
public final class WholeTest {
  public static void main(String[] args) {
    sound();
    longLog();
    digestOfNew();
    digest();
    wildCalls();
    Checks.end();
  }

  private static void sound() {
    Clausekeep hall = new Clausekeep();
    Checks.same("a new one is sound", hall.isSound(), true);
    Checks.kept(hall, 0, "4*+Ap1");
    Checks.drawn(hall, 0, "2*#0@Bq;+Bq1");
    Checks.drawn(hall, 1, "(+Ap1;+Bq1)/(+Cs1&-Cs2)");
    Checks.drawn(hall, 2, "~Ap9[+Bq1[1|0A]|-Bq1]@Cr&0B/+As3");
    Checks.drawn(hall, 3, "0C");
    Checks.same("four contracts are sound", hall.isSound(), true);
    hall.days(0, 1);
    hall.act(1, 2, 3);
    hall.act(0, 1, 1);
    hall.days(2, 9);
    Checks.same("they are after events", hall.isSound(), true);
    for (int i = 0; i < 4; i++) hall.undo();
    Checks.same("they are after undo", hall.isSound(), true);
    hall.join(0, 1, 3, 0);
    hall.transfer(1, 0, 2);
    hall.waive(1, 0);
    Checks.same("they are after being told", hall.isSound(), true);
  }

  private static void longLog() {
    Clausekeep hall = Checks.hall("~Ap0[~Ap9|1]&-Bq9", "~Ap9&~Aq9&~Ar9&~As9");
    StringBuilder due = new StringBuilder();
    for (int i = 0; i < 60; i++) {
      Checks.type(hall, "BpBpBpBpBpBpBpBpBpBpBpBpBpBpBpBpBpBpBpBp");
      hall.run(1);
      for (int k = 0; k < 20; k++) due.append("Bp");
    }
    Checks.same("a long log", hall.log(1), due.toString());
    Checks.same("how many events it has", hall.ofContract(1, 4), 1200);
    Checks.same("a long log is sound", hall.isSound(), true);
    hall.act(1, 0, 0);
    hall.undo();
    hall.days(1, 3);
    Checks.same("a long log goes on", hall.log(1), due + "...");
    Checks.same("the other log is empty", hall.log(0), "");
    hall.days(0, 1);
    Checks.same("the other log", hall.log(0), ".");
    Checks.same("both are sound", hall.isSound(), true);
  }

  private static void digestOfNew() {
    long d = 7901;
    int[] v = {0, 0, 0, 4, 0, 0, 0, 0, 0};
    for (int x : v) d = d * 31 + x;
    for (int i = 0; i < 4; i++) {
      for (int x : new int[] {1, 1, 0, 0, 0, 0, 0, 1, '1', 0, 0}) d = d * 31 + x;
    }
    for (int x : new int[] {0, 0, 0, 1, 1}) d = d * 31 + x;
    Checks.same("digest of a new one", new Clausekeep().digest(), d);
  }

  private static long digestOf(Clausekeep hall) {
    long d = 7901;
    for (int i = 0; i < 8; i++) d = d * 31 + hall.house(i);
    d = d * 31 + hall.fault();
    for (int i = 0; i < 6; i++) {
      if (!hall.named(i).equals("-")) d = (d * 31 + i) * 31 + hall.named(i).length();
    }
    for (int i = 0; i < 4; i++) {
      for (int what = 0; what < 8; what++) d = d * 31 + hall.ofContract(i, what);
      for (char sign : hall.text(i).toCharArray()) d = d * 31 + sign;
      d = (d * 31 + hall.duties(i).length()) * 31 + hall.log(i).length();
    }
    for (int i = 0; i < 3; i++) d = d * 31 + hall.account(i);
    return (d * 31 + hall.reached(0)) * 31 + (hall.isSound() ? 1 : 0);
  }

  private static void digest() {
    Clausekeep hall = Checks.hall("+Ap9&-Aq9&~Br9", "+Ap1/+Bq1", "0B", "~Ap1;+Cs2@Ar");
    Checks.same("digest with too many", hall.digest(), digestOf(hall));
    Checks.kept(hall, 5, "+Ap1&+Bq1");
    Checks.kept(hall, 2, "0C");
    Checks.kept(hall, 1, "1");
    Checks.kept(hall, 0, "+Cs3");
    Checks.type(hall, "+Cs1&#4");
    hall.worth(1, 1, 2, -50);
    hall.fine(77);
    hall.act(1, 1, 1);
    hall.act(0, 0, 1);
    hall.act(3, 2, 3);
    hall.days(3, 1);
    hall.blank();
    hall.knock();
    Checks.same("digest of all", hall.digest(), digestOf(hall));
    Checks.same("digest again", hall.digest(), digestOf(hall));
    hall.undo();
    Checks.same("digest after undo", hall.digest(), digestOf(hall));
  }

  // ---- any calls in any order, far more than the document allows

  private static void wildCalls() {
    Random random = new Random(41);
    for (int run = 0; run < 6; run++) {
      Clausekeep hall = new Clausekeep();
      for (int i = 0; i < 20000; i++) {
        int[] n = new int[6];
        for (int k = 0; k < 6; k++) n[k] = number(random, run);
        try {
          call(hall, random.nextInt(41), n);
        } catch (RuntimeException e) {
          Class<?> c = e.getClass();
          boolean isOurs = c == IllegalArgumentException.class || c == IllegalStateException.class
              || c == IndexOutOfBoundsException.class;
          Checks.same("whether a call may throw " + e, isOurs, true);
        }
      }
    }
  }

  private static int number(Random random, int run) {
    int chance = random.nextInt(40);
    if (chance == 0) return random.nextInt();
    if (chance == 1) return random.nextBoolean() ? Integer.MIN_VALUE : Integer.MAX_VALUE;
    return random.nextInt(run % 2 == 0 ? 4 : 34) - 1;
  }

  private static void call(Clausekeep hall, int which, int[] n) {
    if (which < 14) change(hall, which, n);
    else if (which < 28) ask(hall, which, n);
    else askOfRows(hall, which, n);
  }

  private static void change(Clausekeep hall, int which, int[] n) {
    switch (which) {
      case 0: hall.say(n[0], n[1], n[2], n[3], n[4], n[5]); break;
      case 1: hall.wipe(); Checks.type(hall, TEXTS[Math.floorMod(n[0], TEXTS.length)]); break;
      case 2: hall.name(n[0]); break;
      case 3: if (n[1] == 0) hall.unname(n[0]); break;
      case 4: hall.draw(n[0]); break;
      case 5: hall.join(n[0], n[1], n[2], n[3]); break;
      case 6: hall.act(n[0], n[1], n[2]); break;
      case 7: hall.days(n[0], n[1]); break;
      case 8: hall.run(n[0]); break;
      case 9: hall.transfer(n[0], n[1], n[2]); break;
      case 10: hall.waive(n[0], n[1]); break;
      case 11: hall.worth(n[0], n[1], n[2], n[3]); break;
      case 12: hall.fine(n[0]); break;
      default: hall.undo(); break;
    }
  }

  private static final String[] TEXTS = {"+Ap9[+Bq9|-Br9[1|0C]]&-Aq9&~Br9", "#0;#1/#2&4*#3@Ap", "4*(#0&#1&#2)",
      "+Ap9;+Bq9;+Cr9/+Ap9@Cs", "Ap..BqCs..Ap", "+Ap1@Bq@Bq@Bq@Bq@Bq@Bq@Bq@Bq@Bq@Bq@Bq@Bq", "2*(2*(2*(2*(2*+Ap1))))",
      "#0&#1&#2&#3&#4&#5&#0&#1&#2&#3&#4&#5&#0&#1", "(#0/#1)@Ap[1|", "-Ap0[-Ap0[-Ap0[-Ap0[-Ap0[#0|#1]|1]|1]|"};

  private static void ask(Clausekeep hall, int which, int[] n) {
    switch (which) {
      case 14: hall.blank(); break;
      case 15: hall.knock(); break;
      case 16: hall.paper(n[0] > 0); break;
      case 17: hall.fault(); break;
      case 18: hall.named(n[0]); break;
      case 19: hall.text(n[0]); break;
      case 20: hall.ofContract(n[0], n[1]); break;
      case 21: hall.duties(n[0]); break;
      case 22: hall.due(n[0], n[1], n[2]); break;
      case 23: hall.told(n[0]); break;
      case 24: hall.log(n[0]); break;
      case 25: hall.account(n[0]); break;
      case 26: hall.house(n[0]); break;
      default: hall.undo(); break;
    }
  }

  private static void askOfRows(Clausekeep hall, int which, int[] n) {
    switch (which) {
      case 28: hall.reached(n[0]); break;
      case 29: hall.found(n[0], n[1]); break;
      case 30: hall.clash(n[0]); break;
      case 31: hall.hopeless(n[0]); break;
      case 32: hall.way(n[0], n[1]); break;
      case 33: hall.alike(n[0], n[1]); break;
      case 34: hall.apart(n[0], n[1]); break;
      case 35: hall.pairs(n[0], n[1]); break;
      case 36: hall.binds(n[0], n[1]); break;
      case 37: hall.least(n[0]); break;
      case 38: hall.sure(n[0], n[1], n[2]); break;
      case 39: if (n[0] == 0) hall.isSound(); break;
      default: if (n[0] == 0) hall.digest(); break;
    }
  }
}
