import java.util.ArrayDeque;
import java.util.ArrayList;
import java.util.LinkedHashMap;
import java.util.List;
import java.util.Map;
import java.util.TreeMap;
import java.util.TreeSet;

/**
 * The document once more, word by word and without any care for speed or room: clauses are trees that never change.
 * ModelTest compares the answers of the class with those of this one.
 */
final class Model {
  static final String SIGNS = "0123456789ABCpqrs+~-[|]&/;@#*().";

  /** A CLAUSE: '1', '0' with a party, 'D' a DUTY, '&', '/', ';' (two parts), '@'. */
  static final class C {
    final char kind;
    final char sign;
    final int party;
    final int act;
    final int days;
    final List<C> parts;
    final String text;

    C(char kind, char sign, int party, int act, int days, List<C> parts) {
      this.kind = kind;
      this.sign = sign;
      this.party = party;
      this.act = act;
      this.days = days;
      this.parts = parts;
      this.text = write();
    }

    boolean isBroken() {
      return kind == '0';
    }

    boolean isDone() {
      return kind == '1';
    }

    int state() {
      return isDone() ? 1 : isBroken() ? 2 + party : 0;
    }

    String event() {
      return "" + "ABC".charAt(party) + "pqrs".charAt(act);
    }

    private String write() {
      switch (kind) {
        case '1': return "1";
        case '0': return "0" + "ABC".charAt(party);
        case 'D': {
          String head = sign + event() + days;
          boolean isUsual = parts.get(0).text.equals(usual(sign, party, 0).text)
              && parts.get(1).text.equals(usual(sign, party, 1).text);
          return isUsual ? head : head + "[" + parts.get(0).text + "|" + parts.get(1).text + "]";
        }
        case '@': return within(parts.get(0), "&/;") + "@" + event();
        default: {
          String hidden = kind == '&' ? "/;" : kind == '/' ? ";" : "";
          StringBuilder all = new StringBuilder();
          for (C part : parts) {
            if (all.length() > 0) all.append(kind);
            all.append(within(part, hidden));
          }
          return all.toString();
        }
      }
    }

    private static String within(C part, String hidden) {
      return hidden.indexOf(part.kind) >= 0 ? "(" + part.text + ")" : part.text;
    }
  }

  static final C ONE = new C('1', ' ', 0, 0, 0, List.of());

  static C broken(int party) {
    return new C('0', ' ', party, 0, 0, List.of());
  }

  static C usual(char sign, int party, int which) {
    if (sign == '+' && which == 1 || sign == '-' && which == 0) return broken(party);
    return ONE;
  }

  static C duty(char sign, int party, int act, int days, C first, C second) {
    return new C('D', sign, party, act, days, List.of(first, second));
  }

  static C till(C inner, int party, int act) {
    return inner.isDone() || inner.isBroken() ? inner : new C('@', ' ', party, act, 0, List.of(inner));
  }

  static C behind(C first, C second) {
    if (first.isDone()) return second;
    if (first.isBroken()) return first;
    if (second.isDone()) return first;
    if (first.kind == ';') return behind(first.parts.get(0), behind(first.parts.get(1), second));
    return new C(';', ' ', 0, 0, 0, List.of(first, second));
  }

  /** BOTH ('&') or EITHER ('/'). */
  static C many(char kind, List<C> given) {
    List<C> all = new ArrayList<>();
    for (C part : given) {
      if (part.kind == kind) all.addAll(part.parts);
      else all.add(part);
    }
    int worst = 9;
    boolean isDone = false;
    TreeMap<String, C> byText = new TreeMap<>();
    for (C part : all) {
      if (part.isBroken()) worst = Math.min(worst, part.party);
      else if (part.isDone()) isDone = true;
      else byText.put(part.text, part);
    }
    if (kind == '&' && worst < 9) return broken(worst);
    if (kind == '&' && byText.isEmpty()) return ONE;
    if (kind == '/' && isDone) return ONE;
    if (kind == '/' && byText.isEmpty()) return broken(worst);
    List<C> parts = new ArrayList<>(byText.values());
    return parts.size() == 1 ? parts.get(0) : new C(kind, ' ', 0, 0, 0, parts);
  }

  // ---- reading: the first fault by a machine with a stack, the clause of a text without a fault by halves

  /** Looks at sign by sign, without building anything. */
  int faultOf(String text) {
    String open = "";
    String wait = "unit";
    for (int i = 0; i < text.length(); i++) {
      char c = text.charAt(i);
      String next = null;
      switch (wait) {
        case "unit":
        case "core":
          if (c == '1') next = "behind";
          else if (c == '0') next = "broken";
          else if (c == '#') next = "name";
          else if ("+~-".indexOf(c) >= 0) next = "duty1";
          else if (c == '(' && open.length() < 5) {
            open = open + '(';
            next = "unit";
          } else if (wait.equals("unit") && "234".indexOf(c) >= 0) next = "times";
          break;
        case "times": if (c == '*') next = "core"; break;
        case "broken": if ("ABC".indexOf(c) >= 0) next = "behind"; break;
        case "name": if ("012345".indexOf(c) >= 0 && names.containsKey(c - '0')) next = "behind"; break;
        case "duty1": if ("ABC".indexOf(c) >= 0) next = "duty2"; break;
        case "duty2": if ("pqrs".indexOf(c) >= 0) next = "duty3"; break;
        case "duty3": if ("0123456789".indexOf(c) >= 0) next = "ends"; break;
        case "till1": if ("ABC".indexOf(c) >= 0) next = "till2"; break;
        case "till2": if ("pqrs".indexOf(c) >= 0) next = "behind"; break;
        default: {
          char last = open.isEmpty() ? ' ' : open.charAt(open.length() - 1);
          if (c == '[' && wait.equals("ends") && open.length() < 5) {
            open = open + '[';
            next = "unit";
          } else if (c == '@') next = "till1";
          else if ("&/;".indexOf(c) >= 0) next = "unit";
          else if (c == ')' && last == '(' || c == ']' && last == '|') {
            open = open.substring(0, open.length() - 1);
            next = "behind";
          } else if (c == '|' && last == '[') {
            open = open.substring(0, open.length() - 1) + '|';
            next = "unit";
          }
        }
      }
      if (next == null) return i;
      wait = next;
    }
    boolean isWhole = open.isEmpty() && (wait.equals("behind") || wait.equals("ends"));
    return isWhole ? -1 : text.length();
  }

  private boolean isGreat;

  private C measured(C c) {
    if (c.text.length() > 60) isGreat = true;
    return c;
  }

  /** Splits a text without a fault where a sign stands outside of all brackets. */
  private static List<String> split(String text, char sign) {
    List<String> all = new ArrayList<>();
    int open = 0;
    int from = 0;
    for (int i = 0; i < text.length(); i++) {
      char c = text.charAt(i);
      if (c == '(' || c == '[') open++;
      if (c == ')' || c == ']') open--;
      if (c == sign && open == 0) {
        all.add(text.substring(from, i));
        from = i + 1;
      }
    }
    all.add(text.substring(from));
    return all;
  }

  private C readBehind(String text) {
    List<String> rows = split(text, ';');
    C whole = readEither(rows.get(0));
    for (int i = 1; i < rows.size(); i++) whole = behind(whole, readEither(rows.get(i)));
    return measured(whole);
  }

  private C readEither(String text) {
    List<C> all = new ArrayList<>();
    for (String row : split(text, '/')) all.add(readBoth(row));
    return measured(many('/', all));
  }

  private C readBoth(String text) {
    List<C> all = new ArrayList<>();
    for (String unit : split(text, '&')) all.add(readUnit(unit));
    return measured(many('&', all));
  }

  private C readUnit(String text) {
    List<String> tills = split(text, '@');
    String core = tills.get(0);
    C node;
    if (core.length() > 1 && core.charAt(1) == '*') {
      C one = readCore(core.substring(2));
      node = one;
      for (int i = 1; i < core.charAt(0) - '0'; i++) node = behind(node, one);
    } else {
      node = readCore(core);
    }
    measured(node);
    for (int i = 1; i < tills.size(); i++) {
      node = till(node, tills.get(i).charAt(0) - 'A', tills.get(i).charAt(1) - 'p');
    }
    return measured(node);
  }

  private C readCore(String text) {
    char c = text.charAt(0);
    if (c == '1') return ONE;
    if (c == '0') return broken(text.charAt(1) - 'A');
    if (c == '#') return names.get(text.charAt(1) - '0');
    if (c == '(') return readBehind(text.substring(1, text.length() - 1));
    int party = text.charAt(1) - 'A';
    int act = text.charAt(2) - 'p';
    int days = text.charAt(3) - '0';
    if (text.length() == 4) return measured(duty(c, party, act, days, usual(c, party, 0), usual(c, party, 1)));
    List<String> ends = split(text.substring(5, text.length() - 1), '|');
    return measured(duty(c, party, act, days, readBehind(ends.get(0)), readBehind(ends.get(1))));
  }

  /** The clause on the paper, null with a fault or if it is GREAT. */
  private C read() {
    if (faultOf(paper) != -1) return null;
    isGreat = false;
    C node = readBehind(paper);
    return isGreat ? null : node;
  }

  // ---- events

  static C left(C c, String event) {
    switch (c.kind) {
      case '1':
      case '0': return c;
      case 'D':
        if (event.equals(c.event())) return c.parts.get(0);
        if (!event.equals(".")) return c;
        return c.days == 0 ? c.parts.get(1) : duty(c.sign, c.party, c.act, c.days - 1, c.parts.get(0), c.parts.get(1));
      case ';': return behind(left(c.parts.get(0), event), c.parts.get(1));
      case '@': return event.equals(c.event()) ? ONE : till(left(c.parts.get(0), event), c.party, c.act);
      default: {
        List<C> all = new ArrayList<>();
        for (C part : c.parts) all.add(left(part, event));
        return many(c.kind, all);
      }
    }
  }

  static List<String> eventsOf(C one, C other) {
    List<String> all = new ArrayList<>();
    for (char party = 'A'; party <= 'C'; party++) {
      for (char act = 'p'; act <= 's'; act++) {
        String event = "" + party + act;
        if (one.text.contains(event) || other.text.contains(event)) all.add(event);
      }
    }
    all.add(".");
    return all;
  }

  static void now(C c, TreeSet<String> found) {
    switch (c.kind) {
      case 'D': found.add(c.text.substring(0, 4)); break;
      case ';':
      case '@': now(c.parts.get(0), found); break;
      default: for (C part : c.parts) now(part, found);
    }
  }

  static TreeSet<String> now(C c) {
    TreeSet<String> found = new TreeSet<>();
    now(c, found);
    return found;
  }

  static C handed(C c, int from, int to) {
    List<C> parts = new ArrayList<>();
    for (C part : c.parts) parts.add(handed(part, from, to));
    int party = c.party == from ? to : c.party;
    switch (c.kind) {
      case '1': return c;
      case '0': return broken(party);
      case 'D': return duty(c.sign, party, c.act, c.days, parts.get(0), parts.get(1));
      case '@': return till(parts.get(0), party, c.act);
      case ';': return behind(parts.get(0), parts.get(1));
      default: return many(c.kind, parts);
    }
  }

  // ---- what is held

  static final class Held {
    C[] contracts = {ONE, ONE, ONE, ONE};
    C[] tolds = {ONE, ONE, ONE, ONE};
    List<List<String>> logs = new ArrayList<>();
    Map<Integer, C> names = new TreeMap<>();
    int[][][] worths = new int[3][4][3];
    int[] accounts = new int[3];
    int fine;

    Held() {
      for (int i = 0; i < 4; i++) logs.add(new ArrayList<>());
    }

    Held copy() {
      Held h = new Held();
      h.contracts = contracts.clone();
      h.tolds = tolds.clone();
      for (int i = 0; i < 4; i++) h.logs.get(i).addAll(logs.get(i));
      h.names.putAll(names);
      for (int i = 0; i < 3; i++) {
        for (int k = 0; k < 4; k++) h.worths[i][k] = worths[i][k].clone();
      }
      h.accounts = accounts.clone();
      h.fine = fine;
      return h;
    }
  }

  private Held held = new Held();
  private Map<Integer, C> names = held.names;
  private final ArrayDeque<Held> past = new ArrayDeque<>();
  private String paper = "";
  private int blanks;
  private int knocks;

  private void remember() {
    past.push(held.copy());
    if (past.size() > 8) past.removeLast();
  }

  private static void needContract(int contract) {
    if (contract < 0 || contract > 3) throw new IndexOutOfBoundsException();
  }

  private static void need(boolean isGood) {
    if (!isGood) throw new IllegalArgumentException();
  }

  private static boolean isIn(int x, int least, int most) {
    return x >= least && x <= most;
  }

  private int tell(int contract, C c) {
    remember();
    held.contracts[contract] = c;
    held.tolds[contract] = c;
    held.logs.get(contract).clear();
    return c.text.length();
  }

  private void come(int contract, String event) {
    C before = held.contracts[contract];
    C after = left(before, event);
    held.contracts[contract] = after;
    held.logs.get(contract).add(event);
    if (!event.equals(".")) {
      int[] worths = held.worths[event.charAt(0) - 'A'][event.charAt(1) - 'p'];
      for (int whom = 0; whom < 3; whom++) held.accounts[whom] += worths[whom];
    }
    if (after.isBroken()) held.accounts[after.party] -= held.fine;
  }

  private boolean isOpen(int contract) {
    return held.contracts[contract].state() == 0;
  }

  // ---- the face

  int say(int a, int b, int c, int d, int e, int f) {
    String more = "";
    for (int sign : new int[] {a, b, c, d, e, f}) {
      need(isIn(sign, -1, 31));
      if (sign >= 0) more += SIGNS.charAt(sign);
    }
    if (paper.length() + more.length() > 40) throw new IllegalStateException();
    paper += more;
    return paper.length();
  }

  int wipe() {
    int before = paper.length();
    paper = "";
    return before;
  }

  int name(int name) {
    need(isIn(name, 0, 5));
    C c = read();
    if (c == null) return -9;
    remember();
    names.put(name, c);
    paper = "";
    return c.text.length();
  }

  int unname(int name) {
    if (!names.containsKey(name)) throw new IndexOutOfBoundsException();
    remember();
    names.remove(name);
    return names.size();
  }

  int draw(int contract) {
    needContract(contract);
    C c = read();
    if (c == null) return -9;
    paper = "";
    return tell(contract, c);
  }

  static C joined(C one, C other, int how) {
    return how == 2 ? behind(one, other) : many(how == 0 ? '&' : '/', List.of(one, other));
  }

  int join(int one, int other, int to, int how) {
    needContract(one);
    needContract(other);
    needContract(to);
    need(isIn(how, 0, 2));
    C c = joined(held.contracts[one], held.contracts[other], how);
    return c.text.length() > 60 ? -9 : tell(to, c);
  }

  int act(int contract, int party, int act) {
    needContract(contract);
    need(isIn(party, 0, 2) && isIn(act, 0, 3));
    if (!isOpen(contract)) return -9;
    remember();
    come(contract, "" + "ABC".charAt(party) + "pqrs".charAt(act));
    return held.contracts[contract].state();
  }

  int days(int contract, int days) {
    needContract(contract);
    need(isIn(days, 1, 9));
    remember();
    int gone = 0;
    while (gone < days && isOpen(contract)) {
      come(contract, ".");
      gone++;
    }
    return gone;
  }

  int run(int contract) {
    needContract(contract);
    if (!paper.matches("([ABC][pqrs]|[.])*")) return -9;
    remember();
    int gone = 0;
    for (int i = 0; i < paper.length() && isOpen(contract); gone++) {
      int size = paper.charAt(i) == '.' ? 1 : 2;
      come(contract, paper.substring(i, i + size));
      i += size;
    }
    paper = "";
    return gone;
  }

  int transfer(int contract, int from, int to) {
    needContract(contract);
    need(isIn(from, 0, 2) && isIn(to, 0, 2));
    return tell(contract, handed(held.contracts[contract], from, to));
  }

  int waive(int contract, int nth) {
    needContract(contract);
    need(nth >= 0);
    C c = held.contracts[contract];
    if (c.kind != '&' || nth >= c.parts.size()) return -9;
    List<C> parts = new ArrayList<>(c.parts);
    parts.remove(nth);
    C rest = many('&', parts);
    tell(contract, rest);
    return rest.state();
  }

  int worth(int party, int act, int whom, int worth) {
    need(isIn(party, 0, 2) && isIn(whom, 0, 2) && isIn(act, 0, 3) && isIn(worth, -99, 99));
    remember();
    int before = held.worths[party][act][whom];
    held.worths[party][act][whom] = worth;
    return before;
  }

  int fine(int fine) {
    need(isIn(fine, 0, 99));
    remember();
    int before = held.fine;
    held.fine = fine;
    return before;
  }

  int undo() {
    if (past.isEmpty()) throw new IllegalStateException();
    held = past.pop();
    names = held.names;
    return past.size();
  }

  int blank() {
    blanks++;
    return -9;
  }

  int knock() {
    return ++knocks;
  }

  String paper(boolean isRead) {
    if (!isRead) return paper;
    C c = read();
    return c == null ? "!" : c.text;
  }

  int fault() {
    return faultOf(paper);
  }

  String named(int name) {
    need(isIn(name, 0, 5));
    return names.containsKey(name) ? names.get(name).text : "-";
  }

  String text(int contract) {
    needContract(contract);
    return held.contracts[contract].text;
  }

  int ofContract(int contract, int what) {
    needContract(contract);
    need(isIn(what, 0, 7));
    C c = held.contracts[contract];
    switch (what) {
      case 0: return c.state();
      case 1: return c.text.length();
      case 2: return "0D&/;@".indexOf(c.isDone() ? '0' : c.kind);
      case 3: return c.kind == 'D' ? 0 : c.parts.size();
      case 4: return held.logs.get(contract).size();
      case 5: return now(c).size();
      case 6: return (int) now(c).stream().filter(d -> d.startsWith("+")).count();
      default: return eventsOf(c, c).size();
    }
  }

  String duties(int contract) {
    needContract(contract);
    return String.join(" ", now(held.contracts[contract]));
  }

  int due(int contract, int party, int act) {
    needContract(contract);
    need(isIn(party, 0, 2) && isIn(act, 0, 3));
    int least = -1;
    for (String duty : now(held.contracts[contract])) {
      if (!duty.startsWith("+" + "ABC".charAt(party) + "pqrs".charAt(act))) continue;
      int days = duty.charAt(3) - '0';
      if (least < 0 || days < least) least = days;
    }
    return least;
  }

  String told(int contract) {
    needContract(contract);
    return held.tolds[contract].text;
  }

  String log(int contract) {
    needContract(contract);
    return String.join("", held.logs.get(contract));
  }

  int account(int party) {
    need(isIn(party, 0, 2));
    return held.accounts[party];
  }

  int house(int what) {
    need(isIn(what, 0, 7));
    int open = 0;
    int done = 0;
    for (C c : held.contracts) {
      if (c.state() == 0) open++;
      if (c.state() == 1) done++;
    }
    return new int[] {paper.length(), names.size(), open, done, held.fine, past.size(), blanks, knocks}[what];
  }

  // ---- all rows

  static final class Pair {
    final C one;
    final C other;
    final String row;

    Pair(C one, C other, String row) {
      this.one = one;
      this.other = other;
      this.row = row;
    }
  }

  /** All pairs in the order in which they are found, null with too many. Each pair goes on by its own events. */
  static List<Pair> reach(C one, C other) {
    Map<String, Pair> found = new LinkedHashMap<>();
    List<Pair> queue = new ArrayList<>();
    queue.add(new Pair(one, other, ""));
    found.put(one.text + " " + other.text, queue.get(0));
    for (int i = 0; i < queue.size(); i++) {
      Pair from = queue.get(i);
      for (String event : eventsOf(from.one, from.other)) {
        C first = left(from.one, event);
        C second = left(from.other, event);
        String key = first.text + " " + second.text;
        if (found.containsKey(key)) continue;
        Pair next = new Pair(first, second, from.row + event);
        found.put(key, next);
        queue.add(next);
        if (queue.size() > 30) return null;
      }
    }
    return queue;
  }

  interface Test {
    boolean holds(Pair pair);
  }

  private static String rowTo(List<Pair> all, Test test) {
    if (all == null) return "!";
    for (Pair pair : all) {
      if (test.holds(pair)) return pair.row;
    }
    return "-";
  }

  private List<Pair> reach(int contract) {
    needContract(contract);
    return reach(held.contracts[contract], held.contracts[contract]);
  }

  private List<Pair> reach(int one, int other) {
    needContract(one);
    needContract(other);
    return reach(held.contracts[one], held.contracts[other]);
  }

  int reached(int contract) {
    List<Pair> all = reach(contract);
    return all == null ? -9 : all.size();
  }

  String found(int contract, int nth) {
    needContract(contract);
    need(nth >= 0);
    List<Pair> all = reach(contract);
    return all == null ? "!" : nth < all.size() ? all.get(nth).one.text : "-";
  }

  String clash(int contract) {
    return rowTo(reach(contract), pair -> {
      for (String duty : now(pair.one)) {
        if (!duty.startsWith("+")) continue;
        for (String other : now(pair.one)) {
          if (other.startsWith("-" + duty.substring(1, 3))) return true;
        }
      }
      return false;
    });
  }

  private static boolean isHopeless(C c) {
    if (c.state() != 0) return false;
    for (Pair pair : reach(c, c)) {
      if (pair.one.isDone()) return false;
    }
    return true;
  }

  String hopeless(int contract) {
    return rowTo(reach(contract), pair -> isHopeless(pair.one));
  }

  String way(int contract, int state) {
    needContract(contract);
    need(isIn(state, 0, 4));
    return rowTo(reach(contract), pair -> pair.one.state() == state);
  }

  private static boolean isApart(Pair pair) {
    return pair.one.state() != pair.other.state();
  }

  int alike(int one, int other) {
    List<Pair> all = reach(one, other);
    return all == null ? -9 : all.stream().noneMatch(Model::isApart) ? 1 : 0;
  }

  String apart(int one, int other) {
    return rowTo(reach(one, other), Model::isApart);
  }

  int pairs(int one, int other) {
    List<Pair> all = reach(one, other);
    return all == null ? -9 : all.size();
  }

  int binds(int one, int other) {
    List<Pair> all = reach(one, other);
    return all == null ? -9 : all.stream().noneMatch(p -> p.other.isBroken() && !p.one.isBroken()) ? 1 : 0;
  }

  String least(int contract) {
    needContract(contract);
    C whole = held.contracts[contract];
    if (whole.kind != '&' && whole.kind != '/') return whole.text;
    List<C> rest = new ArrayList<>(whole.parts);
    for (C part : whole.parts) {
      if (rest.size() == 1) break;
      List<C> fewer = new ArrayList<>(rest);
      fewer.remove(part);
      List<Pair> all = reach(whole, many(whole.kind, fewer));
      if (all == null) return "!";
      if (all.stream().noneMatch(Model::isApart)) rest = fewer;
    }
    return many(whole.kind, rest).text;
  }

  int sure(int contract, int party, int turns) {
    needContract(contract);
    need(isIn(party, 0, 2) && isIn(turns, 0, 2));
    C c = held.contracts[contract];
    if (turns == 2 && eventsOf(c, c).size() > 5) throw new IllegalStateException();
    return sure(c, party, turns);
  }

  private int sure(C c, int party, int turns) {
    if (turns == 0 || c.state() != 0) return 0;
    List<String> own = new ArrayList<>();
    List<String> others = new ArrayList<>();
    own.add("");
    others.add("");
    for (String event : eventsOf(c, c)) {
      if (event.equals(".")) continue;
      (event.charAt(0) - 'A' == party ? own : others).add(event);
    }
    int best = Integer.MIN_VALUE;
    for (String mine : own) {
      int worst = Integer.MAX_VALUE;
      for (String theirs : others) {
        C rest = c;
        int gain = 0;
        for (String event : new String[] {mine, theirs, "."}) {
          if (event.isEmpty() || rest.state() != 0) continue;
          if (!event.equals(".")) gain += held.worths[event.charAt(0) - 'A'][event.charAt(1) - 'p'][party];
          rest = left(rest, event);
          if (rest.isBroken() && rest.party == party) gain -= held.fine;
        }
        worst = Math.min(worst, gain + sure(rest, party, turns - 1));
      }
      best = Math.max(best, worst);
    }
    return best;
  }

  boolean isSound() {
    for (int i = 0; i < 4; i++) {
      C c = held.contracts[i];
      C again = held.tolds[i];
      for (String event : held.logs.get(i)) again = left(again, event);
      if (!again.text.equals(c.text)) return false;
      for (int how = 0; how <= 1; how++) {
        if (!joined(c, c, how).text.equals(c.text)) return false;
        for (C other : held.contracts) {
          if (!joined(c, other, how).text.equals(joined(other, c, how).text)) return false;
        }
      }
    }
    return true;
  }

  long digest() {
    List<Long> all = new ArrayList<>();
    for (int what = 0; what <= 7; what++) all.add((long) house(what));
    all.add((long) fault());
    for (Map.Entry<Integer, C> kept : names.entrySet()) {
      all.add((long) kept.getKey());
      all.add((long) kept.getValue().text.length());
    }
    for (int i = 0; i < 4; i++) {
      for (int what = 0; what <= 7; what++) all.add((long) ofContract(i, what));
      for (char sign : text(i).toCharArray()) all.add((long) sign);
      all.add((long) duties(i).length());
      all.add((long) log(i).length());
    }
    for (int i = 0; i < 3; i++) all.add((long) account(i));
    all.add((long) reached(0));
    all.add(isSound() ? 1L : 0L);
    long d = 7901;
    for (long v : all) d = d * 31 + v;
    return d;
  }
}
