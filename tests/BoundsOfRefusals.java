/**
 * The "Throws" rows of the document: each bound from both sides, at, below and above it, and which exception is thrown
 * if several apply. A hall is made anew for each call.
 */
final class BoundsOfRefusals {
  private static final Class<?> PLACE = IndexOutOfBoundsException.class;
  private static final Class<?> NUMBER = IllegalArgumentException.class;
  private static final Class<?> STATE = IllegalStateException.class;
  private static final String NO_CONTRACT = "Throws `IndexOutOfBoundsException` if there is no such CONTRACT";

  private BoundsOfRefusals() {
  }

  interface Numbered {
    Object answer(Clausekeep hall, int number);
  }

  static void check() {
    nothingIsChanged();
    sayRefused();
    namesRefused();
    contractsRefused();
    contractsOfRowsRefused();
    joinRefused();
    actRefused();
    daysAndTransferRefused();
    waiveRefused();
    worthRefused();
    fineRefused();
    undoRefused();
    asksRefused();
    rowAsksRefused();
    sureRefused();
    firstOfTwo();
    firstOfTwoAsked();
    aheadOfMinusNine();
  }

  /** Contract 0 is a BOTH with a log, 1 a DUTY, 2 BROKEN, 3 DONE; two names, money, a row on the paper. */
  private static Clausekeep prepared() {
    Clausekeep hall = Checks.hall("+Ap3&-Bq3&~Cs9", "+Ap1", "0B");
    Checks.kept(hall, 0, "+Cr1");
    Checks.kept(hall, 5, "~Cr1");
    hall.worth(0, 3, 2, 8);
    hall.fine(5);
    hall.act(0, 0, 3);
    Checks.type(hall, "Ap.");
    return hall;
  }

  private static Object answer(Clausekeep hall, Numbered call, int number) {
    try {
      return call.answer(hall, number);
    } catch (RuntimeException e) {
      return e.getClass();
    }
  }

  /** From the least one to the greatest one nothing is thrown; below and above it that exception is, and nothing else. */
  private static void bounds(String what, int least, int greatest, Class<?> due, Numbered call) {
    for (long number = least; number <= greatest; number += Math.max(1, (greatest - (long) least) / 40)) {
      int good = (int) number;
      Checks.same(what + " of " + good + " throws", answer(prepared(), call, good) instanceof Class, false);
    }
    Checks.same(what + " of " + greatest + " throws", answer(prepared(), call, greatest) instanceof Class, false);
    int[] bads = {least - 1, least - 2, least - 1000, Integer.MIN_VALUE, greatest + 1, greatest + 2, greatest + 1000,
        Integer.MAX_VALUE};
    for (int bad : bads) {
      if (bad >= least && bad <= greatest) continue;
      Clausekeep hall = prepared();
      Checks.refused(hall, what + " of " + bad, due, () -> call.answer(hall, bad));
      Checks.same("worths after " + what + " of " + bad, Checks.worths(hall), Checks.worths(prepared()));
    }
  }

  private static void contract(int promise, String what, Numbered call) {
    Checks.quote(promise, NO_CONTRACT);
    bounds(what, 0, 3, PLACE, call);
  }

  private static void nothingIsChanged() {
    Checks.quote(0, "A method that throws an exception changes nothing.");
    Clausekeep hall = prepared();
    Numbered[] calls = {(h, n) -> h.say(1, 1, 1, 1, 1, n), (h, n) -> h.name(n), (h, n) -> h.unname(n), (h, n) -> h.draw(n),
        (h, n) -> h.join(0, 1, 2, n), (h, n) -> h.join(0, 1, n, 0), (h, n) -> h.act(0, 0, n), (h, n) -> h.days(0, n),
        (h, n) -> h.run(n), (h, n) -> h.transfer(0, 0, n), (h, n) -> h.waive(n, 0), (h, n) -> h.worth(0, 3, 2, n),
        (h, n) -> h.fine(n)};
    for (int i = 0; i < calls.length; i++) {
      Numbered call = calls[i];
      Class<?> due = i == 2 || i == 3 || i == 5 || i == 8 || i == 10 ? PLACE : NUMBER;
      Checks.refused(hall, "call " + i, due, () -> call.answer(hall, 200));
    }
    // the whole way back is as without these calls
    Clausekeep other = prepared();
    while (other.house(5) > 0) {
      hall.undo();
      other.undo();
      Checks.same("what is held one call ago", Checks.all(hall), Checks.all(other));
    }
    Checks.same("worths", Checks.worths(hall), Checks.worths(other));
  }

  // ---- the paper and names

  private static void sayRefused() {
    Checks.quote(2, "Throws `IllegalArgumentException` if one is not -1 to 31");
    bounds("say a", -1, 31, NUMBER, (h, n) -> h.say(n, 1, 1, 1, 1, 1));
    bounds("say b", -1, 31, NUMBER, (h, n) -> h.say(1, n, 1, 1, 1, 1));
    bounds("say c", -1, 31, NUMBER, (h, n) -> h.say(1, 1, n, 1, 1, 1));
    bounds("say d", -1, 31, NUMBER, (h, n) -> h.say(1, 1, 1, n, 1, 1));
    bounds("say e", -1, 31, NUMBER, (h, n) -> h.say(1, 1, 1, 1, n, 1));
    bounds("say f", -1, 31, NUMBER, (h, n) -> h.say(1, 1, 1, 1, 1, n));
    Checks.quote(2, "Throws `IllegalStateException` if there were more than 40");
    for (int stand = 30; stand <= 40; stand++) {
      for (int more = 0; more <= 6; more++) {
        Clausekeep hall = Checks.typed(Checks.times("A", stand));
        int[] s = {-1, -1, -1, -1, -1, -1};
        for (int i = 0; i < more; i++) s[(i * 5 + stand) % 6] = 1;
        Checks.Call call = () -> hall.say(s[0], s[1], s[2], s[3], s[4], s[5]);
        if (stand + more > 40) Checks.badState(hall, more + " on " + stand, call);
        else Checks.same(more + " on " + stand, call.answer(), stand + more);
      }
    }
  }

  private static void namesRefused() {
    Checks.quote(4, "Throws `IllegalArgumentException` if name is not 0 to 5");
    bounds("name", 0, 5, NUMBER, (h, n) -> h.name(n));
    Checks.quote(20, "Throws `IllegalArgumentException` if name is not 0 to 5");
    bounds("named", 0, 5, NUMBER, (h, n) -> h.named(n));
    Checks.quote(5, "Throws `IndexOutOfBoundsException` if nothing is kept by it");
    for (int name : new int[] {1, 2, 3, 4, 6, -1, 7, Integer.MIN_VALUE, Integer.MAX_VALUE}) {
      Clausekeep hall = prepared();
      Checks.badPlace(hall, "unname of " + name, () -> hall.unname(name));
    }
    Clausekeep hall = prepared();
    Checks.same("unname of 5", hall.unname(5), 1);
    Checks.badPlace(hall, "unname of 5 again", () -> hall.unname(5));
    Checks.same("unname of 0", hall.unname(0), 0);
    for (int name = 0; name <= 5; name++) {
      int place = name;
      Checks.badPlace(hall, "unname without names", () -> hall.unname(place));
    }
    hall.undo();
    Checks.same("unname of what came back", hall.unname(0), 0);
  }

  // ---- contracts

  private static void contractsRefused() {
    contract(6, "draw", (h, n) -> h.draw(n));
    contract(7, "join one", (h, n) -> h.join(n, 0, 0, 0));
    contract(7, "join other", (h, n) -> h.join(0, n, 0, 0));
    contract(7, "join to", (h, n) -> h.join(0, 0, n, 0));
    contract(8, "act", (h, n) -> h.act(n, 0, 0));
    contract(9, "days", (h, n) -> h.days(n, 1));
    contract(10, "run", (h, n) -> h.run(n));
    contract(11, "transfer", (h, n) -> h.transfer(n, 0, 1));
    contract(12, "waive", (h, n) -> h.waive(n, 0));
    contract(21, "text", (h, n) -> h.text(n));
    contract(22, "ofContract", (h, n) -> h.ofContract(n, 0));
    contract(23, "duties", (h, n) -> h.duties(n));
    contract(24, "due", (h, n) -> h.due(n, 0, 0));
    contract(25, "told", (h, n) -> h.told(n));
    contract(26, "log", (h, n) -> h.log(n));
  }

  private static void contractsOfRowsRefused() {
    contract(29, "reached", (h, n) -> h.reached(n));
    contract(30, "found", (h, n) -> h.found(n, 0));
    contract(31, "clash", (h, n) -> h.clash(n));
    contract(32, "hopeless", (h, n) -> h.hopeless(n));
    contract(33, "way", (h, n) -> h.way(n, 0));
    contract(34, "alike one", (h, n) -> h.alike(n, 0));
    contract(34, "alike other", (h, n) -> h.alike(0, n));
    contract(35, "apart one", (h, n) -> h.apart(n, 0));
    contract(35, "apart other", (h, n) -> h.apart(0, n));
    contract(36, "pairs one", (h, n) -> h.pairs(n, 0));
    contract(36, "pairs other", (h, n) -> h.pairs(0, n));
    contract(37, "binds one", (h, n) -> h.binds(n, 0));
    contract(37, "binds other", (h, n) -> h.binds(0, n));
    contract(38, "least", (h, n) -> h.least(n));
    contract(39, "sure", (h, n) -> h.sure(n, 0, 0));
  }

  private static void joinRefused() {
    Checks.quote(7, "Throws `IllegalArgumentException` if how is not 0 to 2");
    bounds("join how", 0, 2, NUMBER, (h, n) -> h.join(0, 1, 2, n));
  }

  private static void actRefused() {
    Checks.quote(8, "Throws `IllegalArgumentException` if party is not 0 to 2, or act not 0 to 3");
    bounds("act of party", 0, 2, NUMBER, (h, n) -> h.act(0, n, 0));
    bounds("act of act", 0, 3, NUMBER, (h, n) -> h.act(0, 0, n));
    bounds("act of act by C", 0, 3, NUMBER, (h, n) -> h.act(0, 2, n));
  }

  private static void daysAndTransferRefused() {
    Checks.quote(9, "Throws `IllegalArgumentException` if days is not 1 to 9");
    bounds("days", 1, 9, NUMBER, (h, n) -> h.days(0, n));
    bounds("days of a done one", 1, 9, NUMBER, (h, n) -> h.days(3, n));
    Checks.quote(11, "Throws `IllegalArgumentException` if from or to is not 0 to 2");
    bounds("transfer from", 0, 2, NUMBER, (h, n) -> h.transfer(0, n, 1));
    bounds("transfer to", 0, 2, NUMBER, (h, n) -> h.transfer(0, 1, n));
  }

  private static void waiveRefused() {
    Checks.quote(12, "Throws `IllegalArgumentException` if nth is below 0");
    bounds("waive nth", 0, Integer.MAX_VALUE, NUMBER, (h, n) -> h.waive(0, n));
    bounds("waive nth of a duty", 0, Integer.MAX_VALUE, NUMBER, (h, n) -> h.waive(1, n));
  }

  private static void worthRefused() {
    Checks.quote(13, "Throws `IllegalArgumentException` if party or whom is not 0 to 2, act not 0 to 3, or worth not -99 to 99");
    bounds("worth of party", 0, 2, NUMBER, (h, n) -> h.worth(n, 0, 0, 1));
    bounds("worth of act", 0, 3, NUMBER, (h, n) -> h.worth(0, n, 0, 1));
    bounds("worth of act by C", 0, 3, NUMBER, (h, n) -> h.worth(2, n, 2, 1));
    bounds("worth for whom", 0, 2, NUMBER, (h, n) -> h.worth(0, 0, n, 1));
    bounds("worth", -99, 99, NUMBER, (h, n) -> h.worth(0, 3, 2, n));
  }

  private static void fineRefused() {
    Checks.quote(14, "Throws `IllegalArgumentException` if fine is not 0 to 99");
    bounds("fine", 0, 99, NUMBER, (h, n) -> h.fine(n));
  }

  private static void undoRefused() {
    Checks.quote(15, "Throws `IllegalStateException` if none can be undone");
    Clausekeep hall = new Clausekeep();
    Checks.badState(hall, "undo of a new one", () -> hall.undo());
    hall.blank();
    hall.knock();
    Checks.type(hall, "1&");
    hall.draw(0);
    Checks.badState(hall, "undo after what does not count", () -> hall.undo());
    hall.fine(1);
    Checks.same("undo of one", hall.undo(), 0);
    Checks.badState(hall, "undo of none again", () -> hall.undo());
    for (int i = 0; i < 9; i++) hall.fine(i);
    for (int i = 0; i < 8; i++) hall.undo();
    Checks.badState(hall, "undo of the ninth", () -> hall.undo());
  }

  // ---- what is asked

  private static void asksRefused() {
    Checks.quote(22, "Throws `IllegalArgumentException` if what is not 0 to 7");
    for (int contract = 0; contract <= 3; contract++) {
      int place = contract;
      bounds("ofContract", 0, 7, NUMBER, (h, n) -> h.ofContract(place, n));
    }
    Checks.quote(24, "Throws `IllegalArgumentException` if party is not 0 to 2, or act not 0 to 3");
    bounds("due of party", 0, 2, NUMBER, (h, n) -> h.due(0, n, 0));
    bounds("due of act", 0, 3, NUMBER, (h, n) -> h.due(0, 0, n));
    bounds("due of act by C", 0, 3, NUMBER, (h, n) -> h.due(0, 2, n));
    Checks.quote(27, "Throws `IllegalArgumentException` if party is not 0 to 2");
    bounds("account", 0, 2, NUMBER, (h, n) -> h.account(n));
    Checks.quote(28, "Throws `IllegalArgumentException` if what is not 0 to 7");
    bounds("house", 0, 7, NUMBER, (h, n) -> h.house(n));
  }

  private static void rowAsksRefused() {
    Checks.quote(30, "Throws `IllegalArgumentException` if nth is below 0");
    bounds("found nth", 0, Integer.MAX_VALUE, NUMBER, (h, n) -> h.found(0, n));
    bounds("found nth of a done one", 0, Integer.MAX_VALUE, NUMBER, (h, n) -> h.found(3, n));
    Checks.quote(33, "Throws `IllegalArgumentException` if state is not 0 to 4");
    bounds("way", 0, 4, NUMBER, (h, n) -> h.way(0, n));
    bounds("way of a done one", 0, 4, NUMBER, (h, n) -> h.way(3, n));
  }

  private static void sureRefused() {
    Checks.quote(39, "Throws `IllegalArgumentException` if party is not 0 to 2, or turns not 0 to 2");
    bounds("sure of party", 0, 2, NUMBER, (h, n) -> h.sure(0, n, 1));
    bounds("sure of turns", 0, 2, NUMBER, (h, n) -> h.sure(0, 0, n));
    bounds("sure of turns of a done one", 0, 2, NUMBER, (h, n) -> h.sure(3, 0, n));
    Checks.quote(39, "Throws `IllegalStateException` if turns is 2, and more than 5 EVENTS are those of the CONTRACT");
    String[] texts = {"1", "+Ap1", "+Ap1&+Aq1", "+Ap1&+Aq1&+Ar1", "+Ap1&+Aq1&+Ar1&+As1", "+Ap1&+Aq1&+Ar1&+As1&+Bp1",
        "+Ap1&+Aq1&+Ar1&+As1&+Bp1&+Bq1&+Br1&+Bs1"};
    int[] events = {1, 2, 3, 4, 5, 6, 9};
    for (int i = 0; i < texts.length; i++) {
      for (int turns = 0; turns <= 2; turns++) {
        Clausekeep hall = Checks.hall(texts[i]);
        int many = turns;
        Checks.same("events of " + texts[i], hall.ofContract(0, 7), events[i]);
        if (turns == 2 && events[i] > 5) Checks.badState(hall, "sure of " + texts[i], () -> hall.sure(0, 2, many));
        else Checks.same("sure of " + texts[i], hall.sure(0, 2, turns), 0);
      }
    }
  }

  // ---- which one is thrown

  private static void firstOfTwo() {
    Checks.quote(0, "If several exceptions apply, the one that is named first is thrown.");
    Clausekeep full = Checks.typed(Checks.times("1", 40));
    Checks.refused(full, "say of a bad sign on a full paper", NUMBER, () -> full.say(1, 1, 1, 1, 1, 32));
    Checks.refused(full, "say of a bad sign below on a full paper", NUMBER, () -> full.say(-2, 1, 1, 1, 1, 1));
    Checks.refused(full, "say of good signs on a full paper", STATE, () -> full.say(1, 1, 1, 1, 1, 31));
    for (int bad : new int[] {-1, 4}) {
      Clausekeep hall = prepared();
      Checks.refused(hall, "join one", PLACE, () -> hall.join(bad, 0, 0, 3));
      Checks.refused(hall, "join other", PLACE, () -> hall.join(0, bad, 0, -1));
      Checks.refused(hall, "join to", PLACE, () -> hall.join(0, 0, bad, 3));
      Checks.refused(hall, "act party", PLACE, () -> hall.act(bad, 3, 0));
      Checks.refused(hall, "act act", PLACE, () -> hall.act(bad, 0, 4));
      Checks.refused(hall, "days", PLACE, () -> hall.days(bad, 0));
      Checks.refused(hall, "days above", PLACE, () -> hall.days(bad, 10));
      Checks.refused(hall, "transfer from", PLACE, () -> hall.transfer(bad, 3, 0));
      Checks.refused(hall, "transfer to", PLACE, () -> hall.transfer(bad, 0, -1));
      Checks.refused(hall, "waive", PLACE, () -> hall.waive(bad, -1));
    }
  }

  private static void firstOfTwoAsked() {
    Checks.quote(0, "the one that is named first is thrown.");
    for (int bad : new int[] {-1, 4}) {
      Clausekeep hall = Checks.hall("+Ap1&+Aq1&+Ar1&+As1&+Bp1");
      Checks.refused(hall, "ofContract", PLACE, () -> hall.ofContract(bad, 8));
      Checks.refused(hall, "due party", PLACE, () -> hall.due(bad, -1, 0));
      Checks.refused(hall, "due act", PLACE, () -> hall.due(bad, 0, 4));
      Checks.refused(hall, "found", PLACE, () -> hall.found(bad, -1));
      Checks.refused(hall, "way", PLACE, () -> hall.way(bad, 5));
      Checks.refused(hall, "sure party", PLACE, () -> hall.sure(bad, 3, 2));
      Checks.refused(hall, "sure turns", PLACE, () -> hall.sure(bad, 0, 3));
      Checks.refused(hall, "sure of six events, party", NUMBER, () -> hall.sure(0, bad, 2));
      Checks.refused(hall, "sure of six events, turns", NUMBER, () -> hall.sure(0, 0, bad));
      Checks.refused(hall, "sure of six events", STATE, () -> hall.sure(0, 0, 2));
    }
  }

  private static void aheadOfMinusNine() {
    Checks.quote(0, "A method that throws an exception changes nothing. If several exceptions apply");
    Clausekeep hall = Checks.hall("+Ap1", "0B", Checks.rowOfSize("+Ap1", 60));
    Checks.type(hall, "1&");
    Checks.refused(hall, "name of a fault", NUMBER, () -> hall.name(6));
    Checks.refused(hall, "draw of a fault", PLACE, () -> hall.draw(4));
    Checks.refused(hall, "run of no row", PLACE, () -> hall.run(-1));
    Checks.refused(hall, "join of what is too great", NUMBER, () -> hall.join(2, 2, 0, 3));
    Checks.refused(hall, "join of what is too great to none", PLACE, () -> hall.join(2, 2, 4, 2));
    Checks.refused(hall, "act on a broken one", NUMBER, () -> hall.act(1, 3, 0));
    Checks.refused(hall, "act on a done one", NUMBER, () -> hall.act(3, 0, 4));
    Checks.refused(hall, "waive of no both", NUMBER, () -> hall.waive(0, -1));
    Checks.drawn(hall, 0, "+Ap9;+Bq9;+Cr9");
    Checks.refused(hall, "found of too many", NUMBER, () -> hall.found(0, -1));
    Checks.refused(hall, "way of too many", NUMBER, () -> hall.way(0, 5));
    Checks.refused(hall, "pairs of too many", PLACE, () -> hall.pairs(0, 4));
  }
}
