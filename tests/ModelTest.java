import java.util.Random;

/** Random runs of 512 calls (always the same ones): each answer of the class against that of the Model. */
public final class ModelTest {
  private static final int RUNS = Integer.getInteger("runs", 400);
  private static final int CALLS = 512;

  private final Random random;
  private final Clausekeep keep = new Clausekeep();
  private final Model model = new Model();
  private final StringBuilder told = new StringBuilder();
  private String waiting = "";

  private ModelTest(long seed) {
    random = new Random(seed);
  }

  public static void main(String[] args) {
    int wrong = 0;
    for (int run = 0; run < RUNS && wrong < 3; run++) {
      ModelTest test = new ModelTest(run * 7919L + 13);
      for (int i = 0; i < CALLS; i++) {
        if (!test.isCallRight()) {
          wrong++;
          System.out.println("run " + run + ":\n" + test.told);
          break;
        }
      }
    }
    if (wrong != 0) System.exit(1);
  }

  interface Call {
    Object answer();
  }

  private static Object answerOf(Call call) {
    try {
      return call.answer();
    } catch (IllegalStateException | IllegalArgumentException e) {
      return "throws " + e.getClass().getName();
    } catch (IndexOutOfBoundsException e) {
      // a bare class only: the machine itself throws one of those below it
      return "throws " + e.getClass().getName();
    } catch (RuntimeException e) {
      return "THE MACHINE THROWS " + e;
    }
  }

  private boolean isSame(String name, Call mine, Call due) {
    Object one = answerOf(mine);
    Object other = answerOf(due);
    boolean isRight = one.equals(other);
    told.append("  ").append(name).append(" -> ").append(one);
    if (!isRight) told.append(", due is ").append(other);
    told.append('\n');
    return isRight;
  }

  // ---- what is chosen

  private int below(int n) {
    return random.nextInt(n);
  }

  /** Mostly a number from 0 on, sometimes one that is off. */
  private int about(int many) {
    int chance = below(60);
    if (chance == 0) return -1;
    if (chance == 1) return many;
    if (chance == 2) return random.nextInt();
    return below(many);
  }

  private String event() {
    int parties = below(3) == 0 ? 3 : 2;
    int acts = below(4) == 0 ? 4 : 2;
    return "" + "ABC".charAt(below(parties)) + "pqrs".charAt(below(acts));
  }

  /** Mostly one that stands in the text of that contract. */
  private String eventOf(int contract) {
    if (contract < 0 || contract > 3 || below(5) == 0) return event();
    String text = model.text(contract);
    for (int i = 0; i < 20; i++) {
      int at = below(text.length());
      if (at + 1 < text.length() && "ABC".indexOf(text.charAt(at)) >= 0 && "pqrs".indexOf(text.charAt(at + 1)) >= 0) {
        return text.substring(at, at + 2);
      }
    }
    return event();
  }

  /** Mostly one that is open. */
  private int contract() {
    int contract = about(4);
    for (int i = 0; i < 3 && contract >= 0 && contract < 4; i++) {
      if (model.ofContract(contract, 0) == 0) break;
      contract = about(4);
    }
    return contract;
  }

  private String clause(int depth) {
    int kind = below(depth > 3 ? 7 : 16);
    if (kind < 2 && below(3) != 0) kind = 9;
    String days = "" + (below(6) == 0 ? below(10) : below(3));
    String plain = "+~-".charAt(below(6) == 0 ? 1 : below(2) * 2) + event() + days;
    if (kind == 0) return "1";
    if (kind == 1) return "0" + "ABC".charAt(below(3));
    if (kind == 2) {
      int name = below(6);
      return below(30) != 0 && model.named(name).equals("-") ? plain : "#" + name;
    }
    if (kind < 7) return plain;
    if (kind < 9) return plain + "[" + clause(depth + 1) + "|" + clause(depth + 2) + "]";
    if (kind < 13) {
      char joint = "&/;".charAt(below(3));
      String whole = clause(depth + 1) + joint + clause(depth + 1);
      return below(3) == 0 ? "(" + whole + ")" : whole;
    }
    if (kind == 13) return (2 + below(3)) + "*(" + clause(depth + 1) + ")";
    if (kind == 14) return "(" + clause(depth + 1) + ")@" + event();
    return clause(depth + 1) + "@" + event();
  }

  private String text() {
    String text = clause(below(3));
    for (int i = 0; i < 30 && (text.length() > 40 || text.length() < 9); i++) text = clause(below(4));
    if (text.length() > 40) text = text.substring(0, 40);
    int chance = below(20);
    if (chance == 0) {
      int at = below(text.length());
      text = text.substring(0, at) + Model.SIGNS.charAt(below(32)) + text.substring(at + 1);
    } else if (chance == 1) {
      text = text.substring(0, below(text.length() + 1));
    }
    return text;
  }

  private String row() {
    StringBuilder row = new StringBuilder();
    int many = below(below(4) == 0 ? 20 : 6);
    for (int i = 0; i < many; i++) row.append(below(3) == 0 ? "." : eventOf(below(4)));
    if (below(20) == 0) row.append('A');
    return row.toString();
  }

  // ---- the calls

  private boolean isSaid() {
    int[] s = {-1, -1, -1, -1, -1, -1};
    for (int i = 0; i < 6 && i < waiting.length(); i++) s[i] = Model.SIGNS.indexOf(waiting.charAt(i));
    waiting = waiting.substring(Math.min(6, waiting.length()));
    if (below(200) == 0) s[below(6)] = below(2) == 0 ? 32 : -2;
    String name = "say(" + s[0] + ", " + s[1] + ", " + s[2] + ", " + s[3] + ", " + s[4] + ", " + s[5] + ")";
    return isSame(name, () -> keep.say(s[0], s[1], s[2], s[3], s[4], s[5]),
        () -> model.say(s[0], s[1], s[2], s[3], s[4], s[5]));
  }

  private boolean isCallRight() {
    if (!waiting.isEmpty()) return isSaid();
    if (below(40) != 0) {
      int before = model.house(0);
      // a text that was typed is used at once, mostly
      if (before > 0 && below(10) != 0) return isPaperUsed();
    }
    int chance = below(100);
    if (chance < 20) {
      waiting = below(5) == 0 ? row() : text();
      return isSame("wipe()", keep::wipe, model::wipe);
    }
    if (chance < 55) return isChangeRight();
    return chance < 75 ? isAskedRight() : isRowAskedRight();
  }

  private boolean isPaperUsed() {
    int contract = about(4);
    int name = about(6);
    boolean isRow = model.paper(false).matches("([ABC][pqrs]|[.])*");
    if (isRow && below(2) == 0) {
      int open = contract();
      return isSame("run(" + open + ")", () -> keep.run(open), () -> model.run(open));
    }
    if (model.paper(true).equals("!") && below(3) == 0) return isSame("wipe()", keep::wipe, model::wipe);
    switch (below(10)) {
      case 0: return isSame("fault()", keep::fault, model::fault);
      case 1: return isSame("paper(true)", () -> keep.paper(true), () -> model.paper(true));
      case 2: return isSame("paper(false)", () -> keep.paper(false), () -> model.paper(false));
      case 3:
      case 4: return isSame("name(" + name + ")", () -> keep.name(name), () -> model.name(name));
      case 5: return isSame("run(" + contract + ")", () -> keep.run(contract), () -> model.run(contract));
      case 6:
        if (below(2) == 0) return isSame("wipe()", keep::wipe, model::wipe);
        waiting = text();
        return isSaid();
      default: return isSame("draw(" + contract + ")", () -> keep.draw(contract), () -> model.draw(contract));
    }
  }

  private boolean isChangeRight() {
    int contract = contract();
    int other = contract();
    int third = about(4);
    String event = eventOf(contract);
    int party = below(20) == 0 ? about(3) : event.charAt(0) - 'A';
    int whom = about(3);
    int act = below(20) == 0 ? about(4) : event.charAt(1) - 'p';
    int few = about(3);
    int days = 1 + about(below(3) == 0 ? 9 : 2);
    int worth = below(30) == 0 ? 100 - below(2) * 200 : below(199) - 99;
    int fine = below(30) == 0 ? 100 - below(2) * 101 : below(100);
    int name = about(6);
    switch (below(18)) {
      case 0:
      case 1: return isSame("join(" + contract + ", " + other + ", " + third + ", " + few + ")",
          () -> keep.join(contract, other, third, few), () -> model.join(contract, other, third, few));
      case 2:
      case 3:
      case 4: return isSame("act(" + contract + ", " + party + ", " + act + ")",
          () -> keep.act(contract, party, act), () -> model.act(contract, party, act));
      case 5:
      case 6: return isSame("days(" + contract + ", " + days + ")",
          () -> keep.days(contract, days), () -> model.days(contract, days));
      case 7: return isSame("run(" + contract + ")", () -> keep.run(contract), () -> model.run(contract));
      case 8: return isSame("transfer(" + contract + ", " + party + ", " + whom + ")",
          () -> keep.transfer(contract, party, whom), () -> model.transfer(contract, party, whom));
      case 9: return isSame("waive(" + contract + ", " + few + ")",
          () -> keep.waive(contract, few), () -> model.waive(contract, few));
      case 10:
      case 11: return isSame("worth(" + party + ", " + act + ", " + whom + ", " + worth + ")",
          () -> keep.worth(party, act, whom, worth), () -> model.worth(party, act, whom, worth));
      case 12: return isSame("fine(" + fine + ")", () -> keep.fine(fine), () -> model.fine(fine));
      case 13:
      case 17: return isSame("undo()", keep::undo, model::undo);
      case 14: return isSame("unname(" + name + ")", () -> keep.unname(name), () -> model.unname(name));
      case 15: return isSame("blank()", keep::blank, model::blank);
      default: return isSame("knock()", keep::knock, model::knock);
    }
  }

  private boolean isAskedRight() {
    int contract = contract();
    String event = eventOf(contract);
    int party = below(10) == 0 ? about(3) : event.charAt(0) - 'A';
    int act = below(10) == 0 ? about(4) : event.charAt(1) - 'p';
    int what = about(8);
    int name = about(6);
    switch (below(12)) {
      case 0: return isSame("named(" + name + ")", () -> keep.named(name), () -> model.named(name));
      case 1: return isSame("text(" + contract + ")", () -> keep.text(contract), () -> model.text(contract));
      case 2:
      case 3: return isSame("ofContract(" + contract + ", " + what + ")",
          () -> keep.ofContract(contract, what), () -> model.ofContract(contract, what));
      case 4: return isSame("duties(" + contract + ")", () -> keep.duties(contract), () -> model.duties(contract));
      case 5: return isSame("due(" + contract + ", " + party + ", " + act + ")",
          () -> keep.due(contract, party, act), () -> model.due(contract, party, act));
      case 6: return isSame("told(" + contract + ")", () -> keep.told(contract), () -> model.told(contract));
      case 7: return isSame("log(" + contract + ")", () -> keep.log(contract), () -> model.log(contract));
      case 8: return isSame("account(" + party + ")", () -> keep.account(party), () -> model.account(party));
      case 9: return isSame("house(" + what + ")", () -> keep.house(what), () -> model.house(what));
      case 10: return isSame("isSound()", keep::isSound, model::isSound);
      default: return isSame("digest()", keep::digest, model::digest);
    }
  }

  private boolean isRowAskedRight() {
    int contract = contract();
    int other = contract();
    int nth = about(below(3) == 0 ? 31 : 8);
    int state = about(5);
    int party = about(3);
    int turns = about(3);
    switch (below(12)) {
      case 0: return isSame("reached(" + contract + ")", () -> keep.reached(contract), () -> model.reached(contract));
      case 1: return isSame("found(" + contract + ", " + nth + ")",
          () -> keep.found(contract, nth), () -> model.found(contract, nth));
      case 2: return isSame("clash(" + contract + ")", () -> keep.clash(contract), () -> model.clash(contract));
      case 3: return isSame("hopeless(" + contract + ")",
          () -> keep.hopeless(contract), () -> model.hopeless(contract));
      case 4: return isSame("way(" + contract + ", " + state + ")",
          () -> keep.way(contract, state), () -> model.way(contract, state));
      case 5: return isSame("alike(" + contract + ", " + other + ")",
          () -> keep.alike(contract, other), () -> model.alike(contract, other));
      case 6: return isSame("apart(" + contract + ", " + other + ")",
          () -> keep.apart(contract, other), () -> model.apart(contract, other));
      case 7: return isSame("pairs(" + contract + ", " + other + ")",
          () -> keep.pairs(contract, other), () -> model.pairs(contract, other));
      case 8: return isSame("binds(" + contract + ", " + other + ")",
          () -> keep.binds(contract, other), () -> model.binds(contract, other));
      case 9:
      case 10: return isSame("least(" + contract + ")", () -> keep.least(contract), () -> model.least(contract));
      default: return isSame("sure(" + contract + ", " + party + ", " + turns + ")",
          () -> keep.sure(contract, party, turns), () -> model.sure(contract, party, turns));
    }
  }
}
