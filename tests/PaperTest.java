/** Promises 1 to 5 and 18 to 20: the new hall, the paper, its faults, NORMAL clauses, names. */
public final class PaperTest {
  public static void main(String[] args) {
    newHall();
    say();
    sayRefused();
    wipe();
    normal();
    normalAlone();
    great();
    faults();
    faultsOfNames();
    paper();
    name();
    nameRefused();
    unname();
    Checks.end();
  }

  // ---- promise 1

  private static void newHall() {
    Clausekeep hall = new Clausekeep();
    int[] house = {0, 0, 0, 4, 0, 0, 0, 0};
    for (int i = 0; i < 8; i++) Checks.same("house(" + i + ") of a new one", hall.house(i), house[i]);
    for (int i = 0; i < 4; i++) {
      Checks.same("text of a new one", hall.text(i), "1");
      Checks.same("told of a new one", hall.told(i), "1");
      Checks.same("log of a new one", hall.log(i), "");
    }
    for (int i = 0; i < 6; i++) Checks.same("named of a new one", hall.named(i), "-");
    for (int i = 0; i < 3; i++) Checks.same("account of a new one", hall.account(i), 0);
    Checks.same("paper of a new one", hall.paper(false), "");
    for (int i = 0; i < 36; i++) Checks.same("worth of a new one", hall.worth(i / 12, i / 3 % 4, i % 3, 0), 0);
    Checks.same("fine of a new one", hall.fine(0), 0);
    Checks.same("knock of a new one", hall.knock(), 1);
  }

  // ---- promise 2

  private static void say() {
    for (int sign = 0; sign < 32; sign++) {
      Clausekeep hall = new Clausekeep();
      Checks.same("say of one", hall.say(-1, -1, sign, -1, -1, -1), 1);
      Checks.same("the sign " + sign, hall.paper(false), Checks.SIGNS.substring(sign, sign + 1));
    }
    Clausekeep hall = new Clausekeep();
    Checks.same("say of nothing", hall.say(-1, -1, -1, -1, -1, -1), 0);
    Checks.same("say of six", hall.say(17, 10, 13, 1, 23, 19), 6);
    Checks.same("say of two more", hall.say(-1, 11, -1, -1, 14, -1), 8);
    Checks.same("their order", hall.paper(false), "+Ap1&-Bq");
    for (int i = 0; i < 5; i++) hall.say(1, 1, 1, 1, 1, 1);
    Checks.same("say up to 40", hall.say(1, -1, 1, -1, -1, -1), 40);
    Checks.same("say of nothing on a full one", hall.say(-1, -1, -1, -1, -1, -1), 40);
    Checks.badState(hall, "say of one more than 40", () -> hall.say(-1, -1, -1, -1, -1, 1));
  }

  private static void sayRefused() {
    Clausekeep hall = new Clausekeep();
    hall.say(1, 2, -1, -1, -1, -1);
    for (int bad : new int[] {-2, 32, Integer.MIN_VALUE, Integer.MAX_VALUE}) {
      Checks.badNumber(hall, "say a " + bad, () -> hall.say(bad, 1, 1, 1, 1, 1));
      Checks.badNumber(hall, "say b " + bad, () -> hall.say(1, bad, 1, 1, 1, 1));
      Checks.badNumber(hall, "say c " + bad, () -> hall.say(1, 1, bad, 1, 1, 1));
      Checks.badNumber(hall, "say d " + bad, () -> hall.say(1, 1, 1, bad, 1, 1));
      Checks.badNumber(hall, "say e " + bad, () -> hall.say(1, 1, 1, 1, bad, 1));
      Checks.badNumber(hall, "say f " + bad, () -> hall.say(1, 1, 1, 1, 1, bad));
    }
    for (int i = 0; i < 6; i++) hall.say(1, 1, 1, 1, 1, 1);
    Checks.same("38 stand there", hall.house(0), 38);
    Checks.badState(hall, "say of six on 38", () -> hall.say(1, 1, 1, 1, 1, 1));
    hall.say(1, -1, -1, -1, -1, 1);
    Checks.badState(hall, "say a on 40", () -> hall.say(1, -1, -1, -1, -1, -1));
    Checks.badState(hall, "say b on 40", () -> hall.say(-1, 1, -1, -1, -1, -1));
    Checks.badState(hall, "say c on 40", () -> hall.say(-1, -1, 1, -1, -1, -1));
    Checks.badState(hall, "say d on 40", () -> hall.say(-1, -1, -1, 1, -1, -1));
    Checks.badState(hall, "say e on 40", () -> hall.say(-1, -1, -1, -1, 1, -1));
    Checks.badState(hall, "say f on 40", () -> hall.say(-1, -1, -1, -1, -1, 1));
    Checks.badNumber(hall, "say of a bad one, too many as well", () -> hall.say(1, 1, 1, 1, 1, 32));
  }

  // ---- promise 3

  private static void wipe() {
    Clausekeep hall = new Clausekeep();
    Checks.same("wipe of an empty one", hall.wipe(), 0);
    Checks.type(hall, "+Ap1&)");
    Checks.same("wipe", hall.wipe(), 6);
    Checks.same("paper after wipe", hall.paper(false), "");
    Checks.same("house(0) after wipe", hall.house(0), 0);
    Checks.same("wipe is not undone", hall.house(5), 0);
  }

  // ---- what is read

  private static void read(String text, String due) {
    Clausekeep hall = new Clausekeep();
    Checks.type(hall, text);
    Checks.same("the clause of " + text, hall.paper(true), due);
    if (due.equals("!")) return;
    Checks.same("draw of " + text, hall.draw(0), due.length());
    Checks.same("text of " + text, hall.text(0), due);
  }

  private static void normal() {
    read("+Ap1[1|0A]", "+Ap1");
    read("-Ap1[0A|1]", "-Ap1");
    read("~Ap1[1|1]", "~Ap1");
    read("+Ap1[1|0B]", "+Ap1[1|0B]");
    read("-Cs9[0A|1]", "-Cs9[0A|1]");
    read("~Ap0[1|0A]", "~Ap0[1|0A]");
    read("~Ap1&-Ap1&+Ap1", "+Ap1&-Ap1&~Ap1");
    read("+Ap1&1", "+Ap1");
    read("1&1", "1");
    read("+Ap1&0C&0B", "0B");
    read("+Ap1&+Ap1", "+Ap1");
    read("+Ap1&(+Bq1&+Ap0)", "+Ap0&+Ap1&+Bq1");
    read("+Ap1[0B|1]&+Ap1", "+Ap1&+Ap1[0B|1]");
    read("+Ap1/1/0A", "1");
    read("0C/0B", "0B");
    read("+Ap1/0A", "+Ap1");
    read("+Bq1/+Ap1/+Bq1", "+Ap1/+Bq1");
    read("+Bq1/(+Ap1/+Cr1)", "+Ap1/+Bq1/+Cr1");
    read("1;+Ap1", "+Ap1");
    read("0A;+Ap1", "0A");
    read("+Ap1;1", "+Ap1");
    read("+Ap1;0B;+Cr1", "+Ap1;0B");
    read("(+Cr1;+Bq1);+Ap1", "+Cr1;+Bq1;+Ap1");
    read("+Cr1;(+Bq1;+Ap1)", "+Cr1;+Bq1;+Ap1");
    read("1@Ap", "1");
    read("0B@Ap@Bq", "0B");
  }

  private static void normalAlone() {
    read("+As1;+Cr1/+Bq1&+Ap1", "+As1;+Ap1&+Bq1/+Cr1");
    read("(+Br1/+Cq1)&+Ap1", "+Ap1&(+Br1/+Cq1)");
    read("(+Br1;+Cq1)&+Ap1", "+Ap1&(+Br1;+Cq1)");
    read("(+Br1;+Cq1)/+Ap1", "+Ap1/(+Br1;+Cq1)");
    read("(+Br1&+Cq1)/+Ap1", "+Ap1/+Br1&+Cq1");
    read("(+Br1&+Cq1);(+Ap1/+Aq1)", "+Br1&+Cq1;+Ap1/+Aq1");
    read("(+Ap1&+Bq1)@Cr", "(+Ap1&+Bq1)@Cr");
    read("(+Ap1/+Bq1)@Cr", "(+Ap1/+Bq1)@Cr");
    read("(+Ap1;+Bq1)@Cr", "(+Ap1;+Bq1)@Cr");
    read("((+Ap1)@Bq)@Cr", "+Ap1@Bq@Cr");
    read("+Bq1@Cr&+Ap1", "+Ap1&+Bq1@Cr");
    read("2*+Ap1", "+Ap1;+Ap1");
    read("3*1", "1");
    read("4*0B", "0B");
    read("4*(+Ap1/1&+Bq1)", "+Ap1/+Bq1;+Ap1/+Bq1;+Ap1/+Bq1;+Ap1/+Bq1");
    read("2*+Ap1@Cr", "(+Ap1;+Ap1)@Cr");
    read("2*+Bq1&+Ap1", "+Ap1&(+Bq1;+Bq1)");
    read("(((((1)))))", "1");
    read("+Ap1[+Bq1;+Cr1&1|+Bq1/0A]", "+Ap1[+Bq1;+Cr1|+Bq1]");
    read("+Ap1[(+Bq1/+Cr1)|1]", "+Ap1[+Bq1/+Cr1|1]");
  }

  /** A hall that keeps three duties in a row (14 signs) by 0, with that on its paper. */
  private static Clausekeep typedAfterRow(String text) {
    Clausekeep hall = new Clausekeep();
    Checks.kept(hall, 0, "3*+Ap1");
    Checks.type(hall, text);
    return hall;
  }

  private static void great(String text, boolean isGreat, int size) {
    Clausekeep hall = typedAfterRow(text);
    Checks.same("fault of " + text, hall.fault(), -1);
    Checks.same("whether GREAT is " + text, hall.paper(true).equals("!"), isGreat);
    Checks.same("draw of " + text, hall.draw(1), isGreat ? -9 : size);
    Checks.same("the paper after draw of " + text, hall.paper(false), isGreat ? text : "");
    Checks.same("what can be undone after " + text, hall.house(5), isGreat ? 1 : 2);
    if (!isGreat) Checks.type(hall, text);
    Checks.same("name of " + text, hall.name(1), isGreat ? -9 : size);
  }

  private static void great() {
    great("4*#0", false, 59);
    great("#0;#0;#0;+Ap1@Bq;+Ap1@Bq", false, 60);
    great("#0;#0;#0;+Ap1@Bq@Cr@As@Ap", true, 61);
    great("4*#0;0B", true, 62);
    great("#0&#0&#0&#0&#0", false, 14);
    great("0A;#0;#0;#0;#0;#0", false, 2);
    great("0A&(#0;#0;#0;#0;#0)", true, 2);
    great("1/(4*#0;0B)", true, 1);
    great("0A;(4*#0;0B)", true, 2);
    great("0A&4*#0@Bq", true, 2);
    great("1/4*#0&+Bq1", true, 1);
    great("(1/4*#0&+Bq1)&0A", true, 2);
    great("0A&+Bq1[4*#0|1]", true, 2);
    great("~Bq1[1|0A&(4*#0;0B)]", true, 10);
    great("+Ap1;(+Ap1@Bq&+Aq1;1)", false, 17);
  }

  // ---- promise 19

  private static void fault(String text, int due) {
    Clausekeep hall = new Clausekeep();
    Checks.type(hall, text);
    Checks.same("fault of \"" + text + "\"", hall.fault(), due);
    Checks.same("whether \"" + text + "\" is read", hall.paper(true).equals("!"), due != -1);
    if (due != -1) Checks.same("draw of \"" + text + "\"", hall.draw(0), -9);
  }

  private static void faults() {
    String[] ends = {"", "+", "+A", "+Ap", "+Ap1[", "+Ap1[1", "+Ap1[1|", "+Ap1[1|1", "(1", "(", "1&", "1/", "1;", "2",
        "2*", "0", "1@", "1@A", "#", "+Ap1[+Bq1[1|1]|(1", "1&1&1&1&1&1&1&1&1&1&1&1&1&1&1&1&1&1&1&1&"};
    for (String text : ends) fault(text, text.length());
    String[] goods = {"1", "0C", "+Ap1", "~Bq9", "-Cs0", "+Ap1[1|1]", "2*1", "3*0A", "4*(1)", "1@Ap@Bq", "(1)@Ap",
        "(((((1)))))", "((((+Ap1[1|1]))))", "+Ap1[(((+Ap1[1|1])))|((((1))))]"};
    for (String text : goods) fault(text, -1);
    String[] bads = {"+Ap1[1]", "+Ap1|", "+Ap1]", ")", "1)", "()", "1&&", "&1", "2*2*1", "5*1", "1*1", "0p", "0A1",
        "1@p", "1@AA", "#6", "#0", "#p", ".", "1.", "((((((1", "(((((+Ap1[", "+p", "+A1", "+Apq", "Ap", "p", "11",
        "1(1)", "+Ap1+Bq1", "+Ap10", "(1|", "(1]", "+Ap1[1)", "+Ap1[(1|", "+Ap1[1|1|", "1@Ap1", "2&1", "2*)", "9",
        "+Ap1[|", "+Ap1[1|]", "[", "1[", "(+Ap1[1|1])[", "1@Ap[", "*", "@"};
    int[] dues = {6, 4, 4, 0, 1, 1, 2, 0, 2, 0, 1, 1, 2, 2, 3, 1, 1, 1, 0, 1, 5, 9, 1, 2, 3, 0, 0, 1,
        1, 4, 4, 2, 2, 6, 7, 8, 4, 1, 2, 0, 5, 7, 0, 1, 11, 4, 0, 0};
    for (int i = 0; i < bads.length; i++) fault(bads[i], dues[i]);
    fault("+Ap1[+Ap1[+Ap1[+Ap1[+Ap1[+Ap1[1", 29);
    fault("(1)@Ap;((((1))))&(((((1))))))", 28);
    fault("+Ap1[1|(((((1", 11);
    fault("+Ap1[(((((1", 9);
    fault("(1)&((((+Ap1[+Ap1[1|1]|1]))))", 17);
  }

  private static void faultsOfNames() {
    Clausekeep hall = typedAfterRow("2*#0@Bq&#0");
    Checks.same("fault with a name", hall.fault(), -1);
    hall.wipe();
    Checks.type(hall, "1&#1");
    Checks.same("fault at a name that is not kept", hall.fault(), 3);
    hall.wipe();
    Checks.type(hall, "#0#0");
    Checks.same("fault behind a name", hall.fault(), 2);
    hall.wipe();
    Checks.type(hall, "(((((#2");
    Checks.same("fault of an unknown name within", hall.fault(), 6);
    hall.wipe();
    // what is open in the clause of a name is not open in the text
    Checks.kept(hall, 2, "((+Ap1[+Bq1[1|(+Cr1)]@Cs|1])&+Bq0)@Ap");
    Checks.type(hall, "(((((#2)))))");
    Checks.same("fault of a deep name within", hall.fault(), -1);
    Checks.same("draw of a deep name within", hall.draw(0), "(+Ap1[+Bq1[1|+Cr1]@Cs|1]&+Bq0)@Ap".length());
    Checks.same("a deep one goes on", hall.act(0, 1, 2), 0);
    hall.unname(0);
    Checks.type(hall, "#0");
    Checks.same("fault of a name that went", hall.fault(), 1);
  }

  // ---- promise 18

  private static void paper() {
    Clausekeep hall = new Clausekeep();
    Checks.same("an empty one, read", hall.paper(true), "!");
    Checks.type(hall, "+Bq1&+Ap1");
    Checks.same("as it is", hall.paper(false), "+Bq1&+Ap1");
    Checks.same("read", hall.paper(true), "+Ap1&+Bq1");
    Checks.same("it stays", hall.paper(false), "+Bq1&+Ap1");
    Checks.type(hall, ")");
    Checks.same("with a fault", hall.paper(true), "!");
    Checks.same("with a fault, as it is", hall.paper(false), "+Bq1&+Ap1)");
  }

  // ---- promises 4, 5, 20

  private static void name() {
    Clausekeep hall = new Clausekeep();
    Checks.type(hall, "+Bq1&+Ap1");
    Checks.same("name", hall.name(5), 9);
    Checks.same("the paper after name", hall.paper(false), "");
    Checks.same("named", hall.named(5), "+Ap1&+Bq1");
    Checks.same("names that are kept", hall.house(1), 1);
    Checks.type(hall, "#5;+Cr1");
    Checks.same("name by itself", hall.name(5), 14);
    Checks.same("named by itself", hall.named(5), "+Ap1&+Bq1;+Cr1");
    Checks.same("still one is kept", hall.house(1), 1);
    Checks.type(hall, "#5@As");
    hall.name(0);
    Checks.type(hall, "1");
    hall.name(5);
    Checks.same("a name stays what it was then", hall.named(0), "(+Ap1&+Bq1;+Cr1)@As");
    Checks.type(hall, "0B");
    Checks.same("name of a broken one", hall.name(1), 2);
    Checks.same("named of a broken one", hall.named(1), "0B");
    Checks.same("four calls can be undone", hall.house(5), 5);
    hall.undo();
    Checks.same("name undone", hall.named(1), "-");
    hall.undo();
    Checks.same("name instead of another one undone", hall.named(5), "+Ap1&+Bq1;+Cr1");
  }

  private static void nameRefused() {
    Clausekeep hall = new Clausekeep();
    Checks.kept(hall, 3, "+Ap1");
    Checks.same("name of an empty paper", hall.name(3), -9);
    Checks.type(hall, "+Bq1&");
    String before = Checks.all(hall);
    Checks.same("name with a fault", hall.name(3), -9);
    Checks.same("all after that", Checks.all(hall), before);
    for (int bad : new int[] {-1, 6, Integer.MIN_VALUE, Integer.MAX_VALUE}) {
      Checks.badNumber(hall, "name(" + bad + ")", () -> hall.name(bad));
      Checks.badNumber(hall, "named(" + bad + ")", () -> hall.named(bad));
    }
  }

  private static void unname() {
    Clausekeep hall = new Clausekeep();
    for (int i = 0; i < 6; i++) Checks.kept(hall, i, "+Ap" + i);
    Checks.type(hall, "#4");
    Checks.same("unname", hall.unname(4), 5);
    Checks.same("named after it", hall.named(4), "-");
    Checks.same("others stay", hall.named(5), "+Ap5");
    Checks.same("the paper stays", hall.paper(false), "#4");
    for (int bad : new int[] {-1, 6, 4, Integer.MIN_VALUE, Integer.MAX_VALUE}) {
      Checks.badPlace(hall, "unname(" + bad + ")", () -> hall.unname(bad));
    }
    Checks.same("unname again", hall.unname(0), 4);
    hall.undo();
    Checks.same("unname undone", hall.named(0), "+Ap0");
    Checks.same("one more can be undone", hall.undo(), 6);
    Checks.same("draw by a name that came back", hall.draw(0), 4);
  }
}
