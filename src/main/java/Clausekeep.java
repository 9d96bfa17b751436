/**
 * A hall of four contracts that are put together of clauses. The promises are those of DOC.md.
 *
 * A clause is kept by the signs of its TEXT, which tells a NORMAL one apart from all others. For the time of one
 * call it is read into rows of numbers that are made once and used again: no call makes more than the text that
 * it answers.
 */
public final class Clausekeep {
  private static final int NONE = -1;
  private static final int REFUSED = -9;
  private static final int PARTIES = 3;
  private static final int ACTS = 4;
  /** An EVENT is PARTY * ACTS + ACT, or this. */
  private static final int DAY = 12;
  private static final int EVENTS = 13;
  private static final int CONTRACTS = 4;
  private static final int NAMES = 6;
  private static final int PAPER_ROOM = 40;
  private static final int GREATEST_SIZE = 60;
  private static final int UNDO_ROOM = 8;
  /** 512 calls with nine days each stay below this. */
  private static final int LOG_ROOM = 5000;
  private static final int MOST_FOUND = 30;
  /** How deep clauses are walked; one of 60 signs has some twenty levels at most. */
  private static final int DEEPEST = 40;

  /** What a clause is, numbered as ofContract() tells it. */
  private static final int ENDED = 0;
  private static final int DUTY = 1;
  private static final int BOTH = 2;
  private static final int EITHER = 3;
  private static final int BEHIND = 4;
  private static final int TILL = 5;

  /** The clause "1"; that which is BROKEN by a PARTY is 1 + PARTY. So the STATE of these four is one more. */
  private static final int DONE = 0;
  private static final int FIXED = 4;
  private static final int OPEN_STATE = 0;
  private static final int DONE_STATE = 1;
  private static final int FIRST_BROKEN_STATE = 2;

  /** A kind of DUTY is a number: its sign by the order of TEXTS, then its EVENT, then its DAYS. */
  private static final int KINDS_OF_SIGN = 120;
  private static final int MUST = 0;
  private static final int MUST_NOT = 1;
  private static final String DUTY_SIGNS = "+-~";

  private static final String SIGNS = "0123456789ABCpqrs+~-[|]&/;@#*().";
  private static final String JOINTS = "&/;";

  private final Clauses clauses;
  private final Reader reader;
  private final Search search;
  private final Held held;
  private final Held[] past;
  private final byte[] logs;
  private final char[] paper;
  private final int[] row;
  private final StringBuilder words;
  private int signs;
  private int nextPast;
  private int undoable;
  private int blanks;
  private int knocks;

  public Clausekeep() {
    Clauses made = new Clauses();
    clauses = made;
    reader = new Reader(made);
    search = new Search(made);
    held = new Held();
    past = new Held[UNDO_ROOM];
    for (int i = 0; i < UNDO_ROOM; i++) past[i] = new Held();
    logs = new byte[CONTRACTS * LOG_ROOM];
    paper = new char[PAPER_ROOM];
    row = new int[PAPER_ROOM];
    words = new StringBuilder();
  }

  // ---- the paper

  public int say(int a, int b, int c, int d, int e, int f) throws IllegalArgumentException, IllegalStateException {
    needSign(a);
    needSign(b);
    needSign(c);
    needSign(d);
    needSign(e);
    needSign(f);
    int more = one(a) + one(b) + one(c) + one(d) + one(e) + one(f);
    if (signs + more > PAPER_ROOM) throw new IllegalStateException("the paper is full");
    type(a);
    type(b);
    type(c);
    type(d);
    type(e);
    type(f);
    return signs;
  }

  public int wipe() {
    int before = signs;
    signs = 0;
    return before;
  }

  public int name(int name) throws IllegalArgumentException {
    needName(name);
    int node = readPaper();
    if (!reader.isGood()) return REFUSED;
    remember();
    signs = 0;
    return held.keep(placeOfName(name), clauses, node);
  }

  public int unname(int name) throws IndexOutOfBoundsException {
    if (name < 0 || name >= NAMES || held.sizeAt(placeOfName(name)) == 0) {
      throw new IndexOutOfBoundsException("nothing is kept by this name");
    }
    remember();
    held.forget(placeOfName(name));
    return namesKept();
  }

  // ---- contracts

  public int draw(int contract) throws IndexOutOfBoundsException {
    needContract(contract);
    int node = readPaper();
    if (!reader.isGood()) return REFUSED;
    signs = 0;
    return tell(contract, node);
  }

  public int join(int one, int other, int to, int how) throws IndexOutOfBoundsException, IllegalArgumentException {
    needContract(one);
    needContract(other);
    needContract(to);
    if (how < 0 || how > 2) throw new IllegalArgumentException("no such way to join");
    int first = fresh(one);
    int node = clauses.joined(BOTH + how, first, reader.readKept(held, other));
    if (clauses.sizeOf(node) > GREATEST_SIZE) return REFUSED;
    return tell(to, node);
  }

  public int act(int contract, int party, int act) throws IndexOutOfBoundsException, IllegalArgumentException {
    needContract(contract);
    needParty(party);
    needAct(act);
    int node = fresh(contract);
    if (clauses.stateOf(node) != OPEN_STATE) return REFUSED;
    remember();
    int rest = come(contract, node, party * ACTS + act);
    held.keep(contract, clauses, rest);
    return clauses.stateOf(rest);
  }

  public int days(int contract, int days) throws IndexOutOfBoundsException, IllegalArgumentException {
    needContract(contract);
    if (days < 1 || days > 9) throw new IllegalArgumentException("no such number of days");
    int node = fresh(contract);
    remember();
    int gone = 0;
    for (; gone < days && clauses.stateOf(node) == OPEN_STATE; gone++) node = come(contract, node, DAY);
    held.keep(contract, clauses, node);
    return gone;
  }

  public int run(int contract) throws IndexOutOfBoundsException {
    needContract(contract);
    int events = readRow();
    if (events < 0) return REFUSED;
    int node = fresh(contract);
    remember();
    signs = 0;
    int gone = 0;
    for (; gone < events && gone < PAPER_ROOM && clauses.stateOf(node) == OPEN_STATE; gone++) {
      node = come(contract, node, row[gone]);
    }
    held.keep(contract, clauses, node);
    return gone;
  }

  public int transfer(int contract, int from, int to) throws IndexOutOfBoundsException, IllegalArgumentException {
    needContract(contract);
    needParty(from);
    needParty(to);
    int node = fresh(contract);
    return tell(contract, clauses.handed(node, from, to, 0));
  }

  public int waive(int contract, int nth) throws IndexOutOfBoundsException, IllegalArgumentException {
    needContract(contract);
    if (nth < 0) throw new IllegalArgumentException("no such part");
    int node = fresh(contract);
    if (clauses.kindOf(node) != BOTH || nth >= clauses.partsOf(node)) return REFUSED;
    int rest = clauses.without(node, clauses.partOf(node, nth));
    tell(contract, rest);
    return clauses.stateOf(rest);
  }

  public int worth(int party, int act, int whom, int worth) throws IllegalArgumentException {
    needParty(party);
    needParty(whom);
    needAct(act);
    if (worth < -99 || worth > 99) throw new IllegalArgumentException("no such worth");
    remember();
    return held.putWorth(party * ACTS + act, whom, worth);
  }

  public int fine(int fine) throws IllegalArgumentException {
    if (fine < 0 || fine > 99) throw new IllegalArgumentException("no such fine");
    remember();
    int before = held.penalty;
    held.penalty = fine;
    return before;
  }

  public int undo() throws IllegalStateException {
    if (undoable <= 0) throw new IllegalStateException("nothing can be undone");
    undoable--;
    nextPast = Math.floorMod(nextPast - 1, UNDO_ROOM);
    held.become(past[nextPast]);
    return undoable;
  }

  public int blank() {
    blanks++;
    return REFUSED;
  }

  public int knock() {
    knocks++;
    return knocks;
  }

  // ---- what is asked of texts and contracts

  public String paper(boolean isRead) {
    if (isRead) {
      int node = readPaper();
      return reader.isGood() ? clauses.toText(node) : "!";
    }
    words.setLength(0);
    for (int i = 0; i < signs && i < PAPER_ROOM; i++) words.append(paper[i]);
    return words.toString();
  }

  public int fault() {
    readPaper();
    return reader.faultAt;
  }

  public String named(int name) throws IllegalArgumentException {
    needName(name);
    return held.sizeAt(placeOfName(name)) == 0 ? "-" : toText(placeOfName(name));
  }

  public String text(int contract) throws IndexOutOfBoundsException {
    needContract(contract);
    return toText(contract);
  }

  public int ofContract(int contract, int what) throws IndexOutOfBoundsException, IllegalArgumentException {
    needContract(contract);
    if (what < 0 || what > 7) throw new IllegalArgumentException("nothing is told by this number");
    return numberOf(contract, fresh(contract), what);
  }

  public String duties(int contract) throws IndexOutOfBoundsException {
    needContract(contract);
    clauses.tellNow(fresh(contract));
    words.setLength(0);
    for (int i = 0; i < clauses.nowCount(); i++) {
      if (i > 0) words.append(' ');
      int duty = clauses.nowAt(i);
      words.append(signOfDuty(duty));
      words.append(partyLetter(eventOfDuty(duty)));
      words.append(actLetter(eventOfDuty(duty)));
      words.append(daysLetter(duty));
    }
    return words.toString();
  }

  public int due(int contract, int party, int act) throws IndexOutOfBoundsException, IllegalArgumentException {
    needContract(contract);
    needParty(party);
    needAct(act);
    clauses.tellNow(fresh(contract));
    for (int i = 0; i < clauses.nowCount(); i++) {
      int duty = clauses.nowAt(i);
      // they stand by their texts, so the first one has the smallest days
      if (duty / KINDS_OF_SIGN == MUST && eventOfDuty(duty) == party * ACTS + act) return daysOfDuty(duty);
    }
    return NONE;
  }

  public String told(int contract) throws IndexOutOfBoundsException {
    needContract(contract);
    return toText(placeOfTold(contract));
  }

  public String log(int contract) throws IndexOutOfBoundsException {
    needContract(contract);
    words.setLength(0);
    for (int i = 0; i < held.logCount(contract); i++) {
      int event = logged(contract, i);
      if (event == DAY) {
        words.append('.');
      } else {
        words.append(partyLetter(event));
        words.append(actLetter(event));
      }
    }
    return words.toString();
  }

  public int account(int party) throws IllegalArgumentException {
    needParty(party);
    return held.accountOf(party);
  }

  public int house(int what) throws IllegalArgumentException {
    if (what < 0 || what > 7) throw new IllegalArgumentException("nothing is told by this number");
    return numberOfHouse(what);
  }

  // ---- all rows

  public int reached(int contract) throws IndexOutOfBoundsException {
    needContract(contract);
    search.explore(fresh(contract), DONE);
    return search.countOrRefused();
  }

  public String found(int contract, int nth) throws IndexOutOfBoundsException, IllegalArgumentException {
    needContract(contract);
    if (nth < 0) throw new IllegalArgumentException("no such clause");
    search.explore(fresh(contract), DONE);
    if (search.isTooMany) return "!";
    return nth < search.count ? clauses.toText(search.oneAt(nth)) : "-";
  }

  public String clash(int contract) throws IndexOutOfBoundsException {
    needContract(contract);
    search.explore(fresh(contract), DONE);
    return search.tellRow(search.firstClash());
  }

  public String hopeless(int contract) throws IndexOutOfBoundsException {
    needContract(contract);
    search.explore(fresh(contract), DONE);
    return search.tellRow(search.firstHopeless());
  }

  public String way(int contract, int state) throws IndexOutOfBoundsException, IllegalArgumentException {
    needContract(contract);
    if (state < 0 || state > 4) throw new IllegalArgumentException("no such state");
    search.explore(fresh(contract), DONE);
    return search.tellRow(search.firstOfState(state));
  }

  public int alike(int one, int other) throws IndexOutOfBoundsException {
    explorePairs(one, other);
    if (search.isTooMany) return REFUSED;
    return search.firstApart() < 0 ? 1 : 0;
  }

  public String apart(int one, int other) throws IndexOutOfBoundsException {
    explorePairs(one, other);
    return search.tellRow(search.firstApart());
  }

  public int pairs(int one, int other) throws IndexOutOfBoundsException {
    explorePairs(one, other);
    return search.countOrRefused();
  }

  public int binds(int one, int other) throws IndexOutOfBoundsException {
    explorePairs(one, other);
    if (search.isTooMany) return REFUSED;
    return search.isEverLooser() ? 0 : 1;
  }

  public String least(int contract) throws IndexOutOfBoundsException {
    needContract(contract);
    int rest = search.leastOf(fresh(contract));
    return search.isTooMany ? "!" : clauses.toText(rest);
  }

  public int sure(int contract, int party, int turns)
      throws IndexOutOfBoundsException, IllegalArgumentException, IllegalStateException {
    needContract(contract);
    needParty(party);
    if (turns < 0 || turns > 2) throw new IllegalArgumentException("no such number of turns");
    int node = fresh(contract);
    if (turns == 2 && Integer.bitCount(clauses.eventsIn(node)) > 5) {
      throw new IllegalStateException("too many events for two turns");
    }
    return sureOf(node, party, turns);
  }

  public boolean isSound() {
    for (int contract = 0; contract < CONTRACTS; contract++) {
      if (!isItselfTwice(contract) || !isRunAgain(contract)) return false;
      for (int other = contract + 1; other < CONTRACTS; other++) {
        if (!isEitherWayRound(contract, other, BOTH) || !isEitherWayRound(contract, other, EITHER)) return false;
      }
    }
    return true;
  }

  public long digest() {
    long d = 7901;
    for (int what = 0; what <= 7; what++) d = d * 31 + numberOfHouse(what);
    readPaper();
    d = d * 31 + reader.faultAt;
    for (int name = 0; name < NAMES; name++) {
      int size = held.sizeAt(placeOfName(name));
      if (size > 0) d = (d * 31 + name) * 31 + size;
    }
    for (int contract = 0; contract < CONTRACTS; contract++) d = digestContract(d, contract);
    for (int party = 0; party < PARTIES; party++) d = d * 31 + held.accountOf(party);
    search.explore(fresh(0), DONE);
    d = d * 31 + search.countOrRefused();
    return d * 31 + (isSound() ? 1 : 0);
  }

  // ---- what the calls are refused for

  private static void needSign(int sign) {
    if (sign < NONE || sign >= SIGNS.length()) throw new IllegalArgumentException("no such sign");
  }

  private static void needName(int name) {
    if (name < 0 || name >= NAMES) throw new IllegalArgumentException("no such name");
  }

  private static void needContract(int contract) {
    if (contract < 0 || contract >= CONTRACTS) throw new IndexOutOfBoundsException("no such contract");
  }

  private static void needParty(int party) {
    if (party < 0 || party >= PARTIES) throw new IllegalArgumentException("no such party");
  }

  private static void needAct(int act) {
    if (act < 0 || act >= ACTS) throw new IllegalArgumentException("no such act");
  }

  // ---- letters and numbers

  private static char partyLetter(int event) {
    return (char) ('A' + event / ACTS);
  }

  private static char actLetter(int event) {
    return (char) ('p' + event % ACTS);
  }

  private static char daysLetter(int duty) {
    return (char) ('0' + daysOfDuty(duty));
  }

  private static char signOfDuty(int duty) {
    int sign = duty / KINDS_OF_SIGN;
    return sign >= 0 && sign < DUTY_SIGNS.length() ? DUTY_SIGNS.charAt(sign) : '?';
  }

  private static int eventOfDuty(int duty) {
    return duty % KINDS_OF_SIGN / 10;
  }

  private static int daysOfDuty(int duty) {
    return duty % 10;
  }

  private static int placeOfTold(int contract) {
    return CONTRACTS + contract;
  }

  private static int placeOfName(int name) {
    return 2 * CONTRACTS + name;
  }

  private static int one(int sign) {
    return sign == NONE ? 0 : 1;
  }

  private void type(int sign) {
    if (sign < 0 || sign >= SIGNS.length() || signs < 0 || signs >= PAPER_ROOM) return;
    paper[signs] = SIGNS.charAt(sign);
    signs++;
  }

  // ---- reading

  private int readPaper() {
    return reader.readPaper(paper, signs, held);
  }

  /** The EVENTS of the PAPER go to the row; how many there are, or NONE if it is no ROW. */
  private int readRow() {
    int events = 0;
    for (int at = 0; at < signs && at < PAPER_ROOM && events < PAPER_ROOM; at++) {
      char sign = paper[at];
      if (sign == '.') {
        row[events] = DAY;
      } else {
        if (sign < 'A' || sign > 'C' || at + 1 >= signs || at + 1 >= PAPER_ROOM) return NONE;
        at++;
        if (paper[at] < 'p' || paper[at] > 's') return NONE;
        row[events] = (sign - 'A') * ACTS + paper[at] - 'p';
      }
      events++;
    }
    return events;
  }

  /** The CLAUSE of a CONTRACT as the only one that is read. */
  private int fresh(int contract) {
    clauses.clear();
    return reader.readKept(held, contract);
  }

  private String toText(int place) {
    words.setLength(0);
    for (int i = 0; i < held.sizeAt(place); i++) words.append(held.signAt(place, i));
    return words.toString();
  }

  // ---- changes

  private void remember() {
    if (nextPast < 0 || nextPast >= UNDO_ROOM || past[nextPast] == null) return;
    past[nextPast].become(held);
    nextPast = (nextPast + 1) % UNDO_ROOM;
    if (undoable < UNDO_ROOM) undoable++;
  }

  private int tell(int contract, int node) {
    remember();
    held.keep(contract, clauses, node);
    held.emptyLog(contract);
    return held.keep(placeOfTold(contract), clauses, node);
  }

  /** An EVENT comes to an OPEN CONTRACT; what is LEFT of it. */
  private int come(int contract, int node, int event) {
    int rest = clauses.left(node, event, 0);
    for (int whom = 0; whom < PARTIES; whom++) held.pay(whom, held.worthOf(event, whom));
    held.pay(clauses.stateOf(rest) - FIRST_BROKEN_STATE, -held.penalty);
    int end = held.logEnd(contract);
    if (end >= 0 && end < LOG_ROOM && contract >= 0 && contract < CONTRACTS) {
      logs[contract * LOG_ROOM + end] = (byte) event;
      held.growLog(contract);
    }
    return rest;
  }

  // ---- numbers that are told

  private int logged(int contract, int nth) {
    int place = held.logStart(contract) + nth;
    if (contract < 0 || contract >= CONTRACTS || place < 0 || place >= LOG_ROOM) return DAY;
    return logs[contract * LOG_ROOM + place];
  }

  private int logLength(int contract) {
    int length = 0;
    for (int i = 0; i < held.logCount(contract); i++) length += logged(contract, i) == DAY ? 1 : 2;
    return length;
  }

  private int namesKept() {
    int kept = 0;
    for (int i = 0; i < NAMES; i++) {
      if (held.sizeAt(placeOfName(i)) > 0) kept++;
    }
    return kept;
  }

  private int contractsOfState(int state) {
    int many = 0;
    for (int i = 0; i < CONTRACTS; i++) {
      if (held.stateAt(i) == state) many++;
    }
    return many;
  }

  private int numberOfHouse(int what) {
    switch (what) {
      case 0: return signs;
      case 1: return namesKept();
      case 2: return contractsOfState(OPEN_STATE);
      case 3: return contractsOfState(DONE_STATE);
      case 4: return held.penalty;
      case 5: return undoable;
      case 6: return blanks;
      default: return knocks;
    }
  }

  private int numberOf(int contract, int node, int what) {
    switch (what) {
      case 0: return clauses.stateOf(node);
      case 1: return clauses.sizeOf(node);
      case 2: return clauses.kindOf(node);
      case 3: return clauses.widthOf(node);
      case 4: return held.logCount(contract);
      case 7: return Integer.bitCount(clauses.eventsIn(node));
      default: break;
    }
    clauses.tellNow(node);
    return what == 5 ? clauses.nowCount() : clauses.mustCount();
  }

  private long digestContract(long before, int contract) {
    long d = before;
    int node = fresh(contract);
    for (int what = 0; what <= 7; what++) d = d * 31 + numberOf(contract, node, what);
    for (int i = 0; i < held.sizeAt(contract); i++) d = d * 31 + held.signAt(contract, i);
    clauses.tellNow(node);
    // four signs each, with a blank between two
    d = d * 31 + Math.max(0, clauses.nowCount() * 5 - 1);
    return d * 31 + logLength(contract);
  }

  // ---- what is SOUND

  private boolean isItselfTwice(int contract) {
    clauses.clear();
    int node = reader.readKept(held, contract);
    return clauses.isSame(clauses.joined(BOTH, node, node), node)
        && clauses.isSame(clauses.joined(EITHER, node, node), node);
  }

  /** Whether what a CONTRACT was when it was TOLD last, with its LOG run again, is what it is. */
  private boolean isRunAgain(int contract) {
    clauses.clear();
    int node = reader.readKept(held, placeOfTold(contract));
    for (int i = 0; i < held.logCount(contract); i++) {
      int rest = clauses.left(node, logged(contract, i), 0);
      // a long log would fill the rows: what is LEFT is read into empty ones
      if (rest != node) node = reader.readAgain(rest);
    }
    return clauses.isSame(node, reader.readKept(held, contract));
  }

  private boolean isEitherWayRound(int contract, int other, int kind) {
    clauses.clear();
    int one = reader.readKept(held, contract);
    int two = reader.readKept(held, other);
    return clauses.isSame(clauses.joined(kind, one, two), clauses.joined(kind, two, one));
  }

  // ---- all rows of two, and of what is sure

  private void explorePairs(int one, int other) {
    needContract(one);
    needContract(other);
    int first = fresh(one);
    search.explore(first, reader.readKept(held, other));
  }

  /** The turns are at most two, and each call goes on with one less. */
  private int sureOf(int node, int party, int turns) {
    if (turns <= 0 || clauses.stateOf(node) != OPEN_STATE) return 0;
    int events = clauses.eventsIn(node);
    int best = worstOf(node, party, NONE, events, turns);
    for (int act = 0; act < ACTS; act++) {
      int event = party * ACTS + act;
      if ((events >> event & 1) == 1) best = Math.max(best, worstOf(node, party, event, events, turns));
    }
    return best;
  }

  private int worstOf(int node, int party, int own, int events, int turns) {
    int worst = gainOf(node, party, own, NONE, turns);
    for (int event = 0; event < DAY; event++) {
      if (event / ACTS != party && (events >> event & 1) == 1) {
        worst = Math.min(worst, gainOf(node, party, own, event, turns));
      }
    }
    return worst;
  }

  private int gainOf(int node, int party, int own, int others, int turns) {
    int mark = clauses.mark();
    int rest = node;
    int gain = 0;
    for (int step = 0; step < 3; step++) {
      int event = step == 0 ? own : step == 1 ? others : DAY;
      if (event < 0 || clauses.stateOf(rest) != OPEN_STATE) continue;
      rest = clauses.left(rest, event, 0);
      gain += held.worthOf(event, party);
      if (clauses.stateOf(rest) == FIRST_BROKEN_STATE + party) gain -= held.penalty;
    }
    gain += sureOf(rest, party, turns - 1);
    clauses.release(mark);
    return gain;
  }

  /**
   * All that undo() brings back. Texts stand at places: those of the CONTRACTS, those that they had when they were
   * TOLD last, and those of the NAMES, with SIZE 0 where nothing is kept.
   */
  private static final class Held {
    private static final int PLACES = CONTRACTS + CONTRACTS + NAMES;

    private final char[] texts = new char[PLACES * GREATEST_SIZE];
    private final int[] sizes = new int[PLACES];
    private final int[] logStarts = new int[CONTRACTS];
    private final int[] logCounts = new int[CONTRACTS];
    private final int[] worths = new int[DAY * PARTIES];
    private final int[] accounts = new int[PARTIES];
    private int penalty;

    Held() {
      for (int place = 0; place < CONTRACTS + CONTRACTS; place++) {
        texts[place * GREATEST_SIZE] = '1';
        sizes[place] = 1;
      }
    }

    void become(Held other) {
      if (other == null) return;
      System.arraycopy(other.texts, 0, texts, 0, PLACES * GREATEST_SIZE);
      System.arraycopy(other.sizes, 0, sizes, 0, PLACES);
      System.arraycopy(other.logStarts, 0, logStarts, 0, CONTRACTS);
      System.arraycopy(other.logCounts, 0, logCounts, 0, CONTRACTS);
      System.arraycopy(other.worths, 0, worths, 0, DAY * PARTIES);
      System.arraycopy(other.accounts, 0, accounts, 0, PARTIES);
      penalty = other.penalty;
    }

    int sizeAt(int place) {
      return place >= 0 && place < PLACES ? sizes[place] : 0;
    }

    char signAt(int place, int nth) {
      if (nth < 0 || nth >= sizeAt(place) || nth >= GREATEST_SIZE) return 0;
      return texts[place * GREATEST_SIZE + nth];
    }

    /** A TEXT of one sign is DONE, one of two signs is BROKEN by the PARTY behind. */
    int stateAt(int place) {
      if (place < 0 || place >= PLACES || sizes[place] > 2) return OPEN_STATE;
      return sizes[place] < 2 ? DONE_STATE : FIRST_BROKEN_STATE + texts[place * GREATEST_SIZE + 1] - 'A';
    }

    /** Returns its SIZE. */
    int keep(int place, Clauses clauses, int node) {
      if (place < 0 || place >= PLACES || clauses == null) return 0;
      int size = Math.min(clauses.sizeOf(node), GREATEST_SIZE);
      for (int i = 0; i < size; i++) texts[place * GREATEST_SIZE + i] = clauses.signOf(node, i);
      sizes[place] = size;
      return size;
    }

    void forget(int place) {
      if (place >= 0 && place < PLACES) sizes[place] = 0;
    }

    int logStart(int contract) {
      return contract >= 0 && contract < CONTRACTS ? logStarts[contract] : 0;
    }

    int logCount(int contract) {
      return contract >= 0 && contract < CONTRACTS ? logCounts[contract] : 0;
    }

    int logEnd(int contract) {
      return logStart(contract) + logCount(contract);
    }

    void growLog(int contract) {
      if (contract >= 0 && contract < CONTRACTS) logCounts[contract]++;
    }

    /** What the past has logged stands ahead of the new beginning and is not written over. */
    void emptyLog(int contract) {
      if (contract < 0 || contract >= CONTRACTS) return;
      logStarts[contract] += logCounts[contract];
      logCounts[contract] = 0;
    }

    /** The WORTH of an ACT for a PARTY; a DAY has none. */
    int worthOf(int event, int whom) {
      if (event < 0 || event >= DAY || whom < 0 || whom >= PARTIES) return 0;
      return worths[event * PARTIES + whom];
    }

    /** Returns the WORTH before. */
    int putWorth(int event, int whom, int worth) {
      if (event < 0 || event >= DAY || whom < 0 || whom >= PARTIES) return 0;
      int before = worths[event * PARTIES + whom];
      worths[event * PARTIES + whom] = worth;
      return before;
    }

    int accountOf(int party) {
      return party >= 0 && party < PARTIES ? accounts[party] : 0;
    }

    /** Pays a PARTY; nobody else. */
    void pay(int party, int money) {
      if (party >= 0 && party < PARTIES) accounts[party] += money;
    }
  }

  /**
   * NORMAL clauses as numbers of nodes in rows that are used again. Each node knows its TEXT, by which like ones
   * are told. A node is made behind its parts, so that the last ones can be let go again.
   */
  private static final class Clauses {
    private static final int NODE_ROOM = 3000;
    private static final int PART_ROOM = 4000;
    private static final int TEXT_ROOM = 50000;
    private static final int STACK_ROOM = 1000;
    private static final int NOW_ROOM = 64;
    private static final String ENDED_TEXTS = "10A0B0C";

    private final int[] kinds = new int[NODE_ROOM];
    /** The kind of a DUTY, the EVENT of a TILL. */
    private final int[] leads = new int[NODE_ROOM];
    private final int[] firsts = new int[NODE_ROOM];
    private final int[] seconds = new int[NODE_ROOM];
    private final int[] partStarts = new int[NODE_ROOM];
    /** How many PARTS a row has. */
    private final int[] counts = new int[NODE_ROOM];
    private final int[] textStarts = new int[NODE_ROOM];
    private final int[] sizes = new int[NODE_ROOM];
    private final int[] parts = new int[PART_ROOM];
    private final char[] texts = new char[TEXT_ROOM];
    private final int[] stack = new int[STACK_ROOM];
    private final int[] nows = new int[NOW_ROOM];
    private final StringBuilder words = new StringBuilder();
    private int nodes;
    private int partTop;
    private int textTop;
    private int stackTop;
    private int nowTop;

    Clauses() {
      for (int i = 0; i < ENDED_TEXTS.length(); i++) texts[i] = ENDED_TEXTS.charAt(i);
      for (int i = 0; i < FIXED; i++) {
        textStarts[i] = i == DONE ? 0 : i * 2 - 1;
        sizes[i] = i == DONE ? 1 : 2;
      }
      nodes = FIXED;
      textTop = ENDED_TEXTS.length();
    }

    // ---- room

    void clear() {
      release(FIXED);
      stackTop = 0;
    }

    int mark() {
      return nodes;
    }

    /** Lets go all nodes that were made since the mark. */
    void release(int mark) {
      if (mark < FIXED || mark >= nodes || mark >= NODE_ROOM) return;
      nodes = mark;
      partTop = partStarts[mark];
      textTop = textStarts[mark];
    }

    int height() {
      return stackTop;
    }

    void push(int node) {
      if (stackTop < 0 || stackTop >= STACK_ROOM) return;
      stack[stackTop] = node;
      stackTop++;
    }

    private int stackAt(int place) {
      return place >= 0 && place < stackTop && place < STACK_ROOM ? stack[place] : DONE;
    }

    // ---- what a node is

    int kindOf(int node) {
      return node >= 0 && node < NODE_ROOM ? kinds[node] : ENDED;
    }

    private int leadOf(int node) {
      return node >= 0 && node < NODE_ROOM ? leads[node] : 0;
    }

    private int firstOf(int node) {
      return node >= 0 && node < NODE_ROOM ? firsts[node] : DONE;
    }

    private int secondOf(int node) {
      return node >= 0 && node < NODE_ROOM ? seconds[node] : DONE;
    }

    int stateOf(int node) {
      return node >= DONE && node < FIXED ? DONE_STATE + node : OPEN_STATE;
    }

    int sizeOf(int node) {
      return node >= 0 && node < NODE_ROOM ? sizes[node] : 0;
    }

    /** How many PARTS stand in a row of "&", "/" or ";"; 0 of all others. */
    int partsOf(int node) {
      return node >= 0 && node < NODE_ROOM ? counts[node] : 0;
    }

    /** How many PARTS the document counts: a row of ";" is one, and all the rest behind it. */
    int widthOf(int node) {
      int kind = kindOf(node);
      return kind == BEHIND ? 2 : kind == TILL ? 1 : partsOf(node);
    }

    int partOf(int node, int nth) {
      if (node < 0 || node >= NODE_ROOM || nth < 0 || nth >= counts[node]) return DONE;
      int place = partStarts[node] + nth;
      return place >= 0 && place < PART_ROOM ? parts[place] : DONE;
    }

    char signOf(int node, int nth) {
      if (node < 0 || node >= NODE_ROOM || nth < 0 || nth >= sizes[node]) return 0;
      int place = textStarts[node] + nth;
      return place >= 0 && place < TEXT_ROOM ? texts[place] : 0;
    }

    String toText(int node) {
      words.setLength(0);
      for (int i = 0; i < sizeOf(node); i++) words.append(signOf(node, i));
      return words.toString();
    }

    boolean isSame(int one, int other) {
      return one == other || sizeOf(one) == sizeOf(other) && compared(one, other) == 0;
    }

    private int compared(int one, int other) {
      if (one < 0 || one >= NODE_ROOM || other < 0 || other >= NODE_ROOM) return one - other;
      int shorter = Math.min(sizes[one], sizes[other]);
      int here = textStarts[one];
      int there = textStarts[other];
      if (here < 0 || there < 0) return one - other;
      for (int i = 0; i < shorter && here + i < TEXT_ROOM && there + i < TEXT_ROOM; i++) {
        if (texts[here + i] != texts[there + i]) return texts[here + i] - texts[there + i];
      }
      return sizes[one] - sizes[other];
    }

    /** A bit for each EVENT of the clause; the letters of a PARTY and an ACT are neighbours in no other place. */
    int eventsIn(int node) {
      int events = 1 << DAY;
      char before = 0;
      for (int i = 0; i < sizeOf(node); i++) {
        char sign = signOf(node, i);
        if (before >= 'A' && before <= 'C' && sign >= 'p' && sign <= 's') {
          events |= 1 << (before - 'A') * ACTS + sign - 'p';
        }
        before = sign;
      }
      return events;
    }

    // ---- making nodes

    /** Under the document's limits there is room always; without room a clause would be DONE. */
    private int opened(int kind, int lead) {
      if (nodes < FIXED || nodes >= NODE_ROOM) return DONE;
      int node = nodes;
      nodes++;
      kinds[node] = kind;
      leads[node] = lead;
      firsts[node] = DONE;
      seconds[node] = DONE;
      partStarts[node] = partTop;
      counts[node] = 0;
      textStarts[node] = textTop;
      sizes[node] = 0;
      return node;
    }

    private void put(char sign) {
      if (textTop < 0 || textTop >= TEXT_ROOM) return;
      texts[textTop] = sign;
      textTop++;
    }

    private void putEvent(int event) {
      put(partyLetter(event));
      put(actLetter(event));
    }

    private void putText(int node, boolean isBracketed) {
      if (node < 0 || node >= NODE_ROOM) return;
      int start = textStarts[node];
      int size = sizes[node];
      if (start < 0 || size < 0 || start > TEXT_ROOM - size) return;
      if (textTop < 0 || textTop > TEXT_ROOM - size - 2) return;
      if (isBracketed) {
        texts[textTop] = '(';
        textTop++;
      }
      System.arraycopy(texts, start, texts, textTop, size);
      textTop += size;
      if (isBracketed) {
        texts[textTop] = ')';
        textTop++;
      }
    }

    private int closed(int node) {
      if (node >= 0 && node < NODE_ROOM) sizes[node] = textTop - textStarts[node];
      return node;
    }

    int brokenBy(int party) {
      return party >= 0 && party < PARTIES ? 1 + party : DONE;
    }

    /** What a DUTY ends with if nothing else is written: 0 its first END, 1 its second one. */
    int usualEnd(int duty, int which) {
      int sign = duty / KINDS_OF_SIGN;
      boolean isBreach = sign == MUST && which == 1 || sign == MUST_NOT && which == 0;
      return isBreach ? brokenBy(eventOfDuty(duty) / ACTS) : DONE;
    }

    int duty(int duty, int first, int second) {
      int node = opened(DUTY, duty);
      if (node == DONE) return DONE;
      firsts[node] = first;
      seconds[node] = second;
      put(signOfDuty(duty));
      putEvent(eventOfDuty(duty));
      put(daysLetter(duty));
      if (first != usualEnd(duty, 0) || second != usualEnd(duty, 1)) {
        put('[');
        putText(first, false);
        put('|');
        putText(second, false);
        put(']');
      }
      return closed(node);
    }

    int till(int inner, int event) {
      if (kindOf(inner) == ENDED) return inner;
      int node = opened(TILL, event);
      if (node == DONE) return DONE;
      firsts[node] = inner;
      putText(inner, partsOf(inner) > 0);
      put('@');
      putEvent(event);
      return closed(node);
    }

    private int rowFrom(int kind, int start) {
      int joint = kind - BOTH;
      int many = stackTop - start;
      if (joint < 0 || joint >= JOINTS.length() || start < 0 || many < 0 || partTop > PART_ROOM - many) return DONE;
      int node = opened(kind, 0);
      if (node == DONE) return DONE;
      counts[node] = many;
      for (int i = 0; i < many; i++) {
        int part = stackAt(start + i);
        if (partTop >= 0 && partTop < PART_ROOM) parts[partTop] = part;
        partTop++;
        if (i > 0) put(JOINTS.charAt(joint));
        // what binds less closely than the row stands in brackets
        putText(part, partsOf(part) > 0 && kindOf(part) > kind);
      }
      return closed(node);
    }

    int joined(int kind, int one, int other) {
      int base = stackTop;
      push(one);
      push(other);
      return gathered(kind, base);
    }

    /** What a row is without one of its PARTS. */
    int without(int node, int part) {
      int base = stackTop;
      for (int i = 0; i < partsOf(node); i++) {
        int other = partOf(node, i);
        if (other != part) push(other);
      }
      return gathered(kindOf(node), base);
    }

    /** Takes what waits on the stack from the base on, and makes a NORMAL row of it. */
    int gathered(int kind, int base) {
      int start = flattened(kind, base);
      int end = stackTop;
      int node = kind == BEHIND ? followed(start, end) : sorted(kind, start, end);
      if (node == NONE) node = stackTop - end == 1 ? stackAt(end) : rowFrom(kind, end);
      stackTop = base;
      return node;
    }

    /** PARTS that are rows of the same kind give theirs: all stand behind the others then, from the answer on. */
    private int flattened(int kind, int base) {
      int start = stackTop;
      for (int i = base; i < start; i++) {
        int part = stackAt(i);
        if (kindOf(part) != kind) push(part);
        for (int nth = 0; kindOf(part) == kind && nth < partsOf(part); nth++) push(partOf(part, nth));
      }
      return start;
    }

    /** Nothing comes behind what is BROKEN. Returns DONE if nothing is left, otherwise NONE. */
    private int followed(int start, int end) {
      for (int i = start; i < end; i++) {
        int part = stackAt(i);
        if (part == DONE) continue;
        push(part);
        if (kindOf(part) == ENDED) break;
      }
      return stackTop == end ? DONE : NONE;
    }

    /** PARTS of BOTH or EITHER by their TEXTS. Returns DONE or BROKEN if that is all, otherwise NONE. */
    private int sorted(int kind, int start, int end) {
      boolean isDone = false;
      int broken = FIXED;
      for (int i = start; i < end; i++) {
        int part = stackAt(i);
        if (part == DONE) {
          isDone = true;
        } else if (kindOf(part) == ENDED) {
          broken = Math.min(broken, part);
        } else {
          int place = stackTop;
          while (place > end && compared(part, stackAt(place - 1)) < 0) place--;
          if (place == end || compared(part, stackAt(place - 1)) != 0) insert(part, place);
        }
      }
      boolean isEmpty = stackTop == end;
      if (kind == BOTH && broken < FIXED) return broken;
      if (kind == EITHER && isDone) return DONE;
      if (!isEmpty) return NONE;
      return broken < FIXED ? broken : DONE;
    }

    private void insert(int part, int place) {
      if (place < 0 || place > stackTop || stackTop >= STACK_ROOM) return;
      for (int i = stackTop; i > place; i--) stack[i] = stack[i - 1];
      stack[place] = part;
      stackTop++;
    }

    // ---- what becomes of a clause

    private int left(int node, int event, int depth) {
      int kind = kindOf(node);
      if (kind == ENDED || depth > DEEPEST) return node;
      if (kind == DUTY) {
        int duty = leadOf(node);
        if (event == eventOfDuty(duty)) return firstOf(node);
        if (event != DAY) return node;
        return daysOfDuty(duty) == 0 ? secondOf(node) : duty(duty - 1, firstOf(node), secondOf(node));
      }
      if (kind == TILL) {
        if (event == leadOf(node)) return DONE;
        int inner = left(firstOf(node), event, depth + 1);
        return inner == firstOf(node) ? node : till(inner, leadOf(node));
      }
      int base = stackTop;
      boolean isMoved = false;
      for (int i = 0; i < partsOf(node); i++) {
        int part = partOf(node, i);
        // what stands behind a ";" waits
        int rest = i > 0 && kind == BEHIND ? part : left(part, event, depth + 1);
        if (rest != part) isMoved = true;
        push(rest);
      }
      if (isMoved) return gathered(kind, base);
      stackTop = base;
      return node;
    }

    /** All that is one PARTY's is another one's. */
    private int handed(int node, int from, int to, int depth) {
      int kind = kindOf(node);
      if (depth > DEEPEST) return node;
      if (kind == ENDED) return node == brokenBy(from) ? brokenBy(to) : node;
      if (kind == DUTY) {
        int first = handed(firstOf(node), from, to, depth + 1);
        int second = handed(secondOf(node), from, to, depth + 1);
        int duty = leadOf(node);
        int event = handedEvent(eventOfDuty(duty), from, to);
        return duty(duty + (event - eventOfDuty(duty)) * 10, first, second);
      }
      if (kind == TILL) return till(handed(firstOf(node), from, to, depth + 1), handedEvent(leadOf(node), from, to));
      int base = stackTop;
      for (int i = 0; i < partsOf(node); i++) push(handed(partOf(node, i), from, to, depth + 1));
      return gathered(kind, base);
    }

    private static int handedEvent(int event, int from, int to) {
      return event / ACTS == from ? to * ACTS + event % ACTS : event;
    }

    // ---- the DUTIES that are NOW

    void tellNow(int node) {
      nowTop = 0;
      findNow(node, 0);
    }

    int nowCount() {
      return nowTop;
    }

    int nowAt(int nth) {
      return nth >= 0 && nth < nowTop && nth < NOW_ROOM ? nows[nth] : 0;
    }

    int mustCount() {
      int musts = 0;
      for (int i = 0; i < nowTop; i++) {
        if (nowAt(i) / KINDS_OF_SIGN == MUST) musts++;
      }
      return musts;
    }

    private void findNow(int node, int depth) {
      int kind = kindOf(node);
      if (kind == ENDED || depth > DEEPEST) return;
      if (kind == DUTY) {
        addNow(leadOf(node));
      } else if (kind == TILL) {
        findNow(firstOf(node), depth + 1);
      } else {
        int many = kind == BEHIND ? 1 : partsOf(node);
        for (int i = 0; i < many; i++) findNow(partOf(node, i), depth + 1);
      }
    }

    /** The numbers of DUTIES rise as their TEXTS do. */
    private void addNow(int duty) {
      int place = 0;
      for (; place < nowTop && place < NOW_ROOM; place++) {
        if (nows[place] == duty) return;
        if (nows[place] > duty) break;
      }
      if (nowTop < 0 || nowTop >= NOW_ROOM) return;
      for (int i = nowTop; i > place && i < NOW_ROOM; i--) nows[i] = nows[i - 1];
      nows[place] = duty;
      nowTop++;
    }

    boolean isClashing(int node) {
      tellNow(node);
      int musts = 0;
      int mustNots = 0;
      for (int i = 0; i < nowTop; i++) {
        int sign = nowAt(i) / KINDS_OF_SIGN;
        int bit = 1 << eventOfDuty(nowAt(i));
        if (sign == MUST) musts |= bit;
        if (sign == MUST_NOT) mustNots |= bit;
      }
      return (musts & mustNots) != 0;
    }
  }

  /** Reads a text into clauses, up to its first fault. */
  private static final class Reader {
    private static final int SOURCE_ROOM = 64;
    private static final int MOST_OPEN = 5;

    private final Clauses clauses;
    private final char[] source = new char[SOURCE_ROOM];
    /** The clauses of the NAMES, NONE where nothing is kept. */
    private final int[] known = new int[NAMES];
    private int length;
    private int at;
    private int mostOpen;
    private int faultAt;
    private boolean isGreat;

    Reader(Clauses made) {
      clauses = made;
    }

    boolean isGood() {
      return faultAt == NONE && !isGreat;
    }

    int readPaper(char[] signs, int count, Held held) {
      if (signs == null || held == null) return DONE;
      clauses.clear();
      for (int i = 0; i < NAMES; i++) {
        int place = placeOfName(i);
        known[i] = held.sizeAt(place) == 0 ? NONE : readKept(held, place);
      }
      begin(MOST_OPEN);
      for (int i = 0; i < count && i < signs.length; i++) add(signs[i]);
      int node = row(BEHIND, 0);
      if (at < length) fail();
      return node;
    }

    /** Reads a TEXT that is kept; with what stood for a NAME once, more may be open in it than on the paper. */
    int readKept(Held held, int place) {
      begin(DEEPEST);
      if (held == null) return DONE;
      for (int i = 0; i < held.sizeAt(place); i++) add(held.signAt(place, i));
      return row(BEHIND, 0);
    }

    /** Reads a clause once more, as the only one. */
    int readAgain(int node) {
      begin(DEEPEST);
      for (int i = 0; i < clauses.sizeOf(node); i++) add(clauses.signOf(node, i));
      clauses.clear();
      return row(BEHIND, 0);
    }

    private void begin(int most) {
      length = 0;
      at = 0;
      mostOpen = most;
      faultAt = NONE;
      isGreat = false;
    }

    private void add(char sign) {
      if (length < 0 || length >= SOURCE_ROOM) return;
      source[length] = sign;
      length++;
    }

    private void fail() {
      if (faultAt == NONE) faultAt = at;
    }

    private char next() {
      return faultAt == NONE && at >= 0 && at < length && at < SOURCE_ROOM ? source[at] : 0;
    }

    private boolean isTaken(char sign) {
      if (next() != sign) return false;
      at++;
      return true;
    }

    private void expect(char sign) {
      if (!isTaken(sign)) fail();
    }

    /** Takes one of so many signs from the first one on; its number, 0 with a fault. */
    private int takeOneOf(char first, int many) {
      int nth = next() - first;
      if (nth < 0 || nth >= many) {
        fail();
        return 0;
      }
      at++;
      return nth;
    }

    private int takeEvent() {
      int party = takeOneOf('A', PARTIES);
      return party * ACTS + takeOneOf('p', ACTS);
    }

    private boolean isJointTaken(int kind) {
      int joint = kind - BOTH;
      return joint >= 0 && joint < JOINTS.length() && isTaken(JOINTS.charAt(joint));
    }

    /** A clause that is too great is not built on, for the whole one is GREAT by it. */
    private int measured(int node) {
      if (clauses.sizeOf(node) <= GREATEST_SIZE) return node;
      isGreat = true;
      return DONE;
    }

    /** A row of ";" is one of rows of "/", these are of rows of "&", and these of units. */
    private int row(int kind, int open) {
      int base = clauses.height();
      clauses.push(kind <= BOTH ? unit(open) : row(kind - 1, open));
      for (int i = 0; i < SOURCE_ROOM && isJointTaken(kind); i++) {
        clauses.push(kind <= BOTH ? unit(open) : row(kind - 1, open));
      }
      return measured(clauses.gathered(kind, base));
    }

    private int unit(int open) {
      int times = 1;
      if (next() >= '2' && next() <= '4') {
        times = 2 + takeOneOf('2', 3);
        expect('*');
      }
      int node = core(open);
      int base = clauses.height();
      for (int i = 0; i < times; i++) clauses.push(node);
      node = clauses.gathered(BEHIND, base);
      for (int i = 0; i < SOURCE_ROOM && isTaken('@'); i++) node = clauses.till(node, takeEvent());
      return measured(node);
    }

    private int core(int open) {
      if (isTaken('1')) return DONE;
      if (isTaken('0')) return clauses.brokenBy(takeOneOf('A', PARTIES));
      if (isTaken('#')) return takeKnown();
      int sign = DUTY_SIGNS.indexOf(next());
      if (sign >= 0) return duty(open, sign);
      if (next() != '(' || open >= mostOpen) {
        fail();
        return DONE;
      }
      at++;
      int node = row(BEHIND, open + 1);
      expect(')');
      return node;
    }

    private int takeKnown() {
      int name = next() - '0';
      if (name < 0 || name >= NAMES || known[name] == NONE) {
        fail();
        return DONE;
      }
      at++;
      return known[name];
    }

    private int duty(int open, int sign) {
      at++;
      int duty = sign * KINDS_OF_SIGN + takeEvent() * 10;
      duty += takeOneOf('0', 10);
      if (next() != '[') return clauses.duty(duty, clauses.usualEnd(duty, 0), clauses.usualEnd(duty, 1));
      if (open >= mostOpen) {
        fail();
        return DONE;
      }
      at++;
      int first = row(BEHIND, open + 1);
      expect('|');
      int second = row(BEHIND, open + 1);
      expect(']');
      return clauses.duty(duty, first, second);
    }
  }

  /** All pairs that are REACHED of two clauses; with DONE as the second one, all clauses of one. */
  private static final class Search {
    private final Clauses clauses;
    private final int[] ones = new int[MOST_FOUND];
    private final int[] twos = new int[MOST_FOUND];
    /** Which one it was found from, and by which EVENT. */
    private final int[] froms = new int[MOST_FOUND];
    private final int[] bys = new int[MOST_FOUND];
    /** Where each EVENT leads. */
    private final int[] nexts = new int[MOST_FOUND * EVENTS];
    private final boolean[] isHopeful = new boolean[MOST_FOUND];
    private final StringBuilder words = new StringBuilder();
    private int count;
    private boolean isTooMany;

    Search(Clauses made) {
      clauses = made;
    }

    void explore(int one, int two) {
      int events = clauses.eventsIn(one) | clauses.eventsIn(two);
      isTooMany = false;
      count = 0;
      add(one, two, NONE, NONE);
      for (int i = 0; i < count && i < MOST_FOUND && !isTooMany; i++) {
        for (int event = 0; event < EVENTS && !isTooMany; event++) {
          nexts[i * EVENTS + event] = i;
          if ((events >> event & 1) == 1) nexts[i * EVENTS + event] = go(i, event);
        }
      }
    }

    /** Where an EVENT leads from what was found as that one. */
    private int go(int from, int event) {
      if (from < 0 || from >= MOST_FOUND) return NONE;
      int mark = clauses.mark();
      int first = clauses.left(ones[from], event, 0);
      int second = clauses.left(twos[from], event, 0);
      int place = placeOf(first, second);
      if (place < count) clauses.release(mark);
      else if (count < MOST_FOUND) add(first, second, from, event);
      else isTooMany = true;
      return place;
    }

    private void add(int one, int two, int from, int by) {
      if (count < 0 || count >= MOST_FOUND) return;
      ones[count] = one;
      twos[count] = two;
      froms[count] = from;
      bys[count] = by;
      count++;
    }

    private int placeOf(int one, int two) {
      int place = 0;
      for (; place < count && place < MOST_FOUND; place++) {
        if (clauses.isSame(ones[place], one) && clauses.isSame(twos[place], two)) break;
      }
      return place;
    }

    int countOrRefused() {
      return isTooMany ? REFUSED : count;
    }

    int oneAt(int nth) {
      return nth >= 0 && nth < count && nth < MOST_FOUND ? ones[nth] : DONE;
    }

    /** The ROW to one that was found; "-" for NONE, "!" with TOO MANY. */
    String tellRow(int nth) {
      if (isTooMany) return "!";
      if (nth < 0) return "-";
      words.setLength(0);
      int place = nth;
      for (int i = 0; i < MOST_FOUND && place > 0 && place < MOST_FOUND; i++) {
        int event = bys[place];
        // from the end on, and each event so, too: the whole is turned round then
        if (event == DAY) {
          words.append('.');
        } else {
          words.append(actLetter(event));
          words.append(partyLetter(event));
        }
        place = froms[place];
      }
      return words.reverse().toString();
    }

    int firstClash() {
      for (int i = 0; i < count && i < MOST_FOUND; i++) {
        if (clauses.isClashing(ones[i])) return i;
      }
      return NONE;
    }

    int firstOfState(int state) {
      for (int i = 0; i < count && i < MOST_FOUND; i++) {
        if (clauses.stateOf(ones[i]) == state) return i;
      }
      return NONE;
    }

    int firstHopeless() {
      if (isTooMany) return NONE;
      for (int i = 0; i < count && i < MOST_FOUND; i++) isHopeful[i] = ones[i] == DONE;
      boolean isSpreading = true;
      for (int round = 0; round < MOST_FOUND && isSpreading; round++) isSpreading = isHopeSpread();
      for (int i = 0; i < count && i < MOST_FOUND; i++) {
        if (!isHopeful[i] && clauses.stateOf(ones[i]) == OPEN_STATE) return i;
      }
      return NONE;
    }

    /** Hope goes back from what is left to what it is left of; whether it came to another one. */
    private boolean isHopeSpread() {
      boolean isSpread = false;
      for (int i = count - 1; i >= 0 && i < MOST_FOUND; i--) {
        for (int event = 0; event < EVENTS && !isHopeful[i]; event++) {
          int next = nexts[i * EVENTS + event];
          if (next >= 0 && next < MOST_FOUND && isHopeful[next]) {
            isHopeful[i] = true;
            isSpread = true;
          }
        }
      }
      return isSpread;
    }

    int firstApart() {
      for (int i = 0; i < count && i < MOST_FOUND; i++) {
        if (clauses.stateOf(ones[i]) != clauses.stateOf(twos[i])) return i;
      }
      return NONE;
    }

    /** Whether somewhere the second one is BROKEN and the first one is not. */
    boolean isEverLooser() {
      for (int i = 0; i < count && i < MOST_FOUND; i++) {
        boolean isBroken = clauses.stateOf(ones[i]) >= FIRST_BROKEN_STATE;
        if (!isBroken && clauses.stateOf(twos[i]) >= FIRST_BROKEN_STATE) return true;
      }
      return false;
    }

    /** The LEAST one of a clause; it is not to be used if there are TOO MANY pairs then. */
    int leastOf(int whole) {
      isTooMany = false;
      int kind = clauses.kindOf(whole);
      if (kind != BOTH && kind != EITHER) return whole;
      int rest = whole;
      for (int i = 0; i < clauses.partsOf(whole); i++) {
        // with one part left it is that part, and no others are left
        if (clauses.kindOf(rest) != kind) return rest;
        int mark = clauses.mark();
        int fewer = clauses.without(rest, clauses.partOf(whole, i));
        int made = clauses.mark();
        explore(whole, fewer);
        if (isTooMany) return rest;
        boolean isAlike = firstApart() < 0;
        clauses.release(isAlike ? made : mark);
        if (isAlike) rest = fewer;
      }
      return rest;
    }
  }
}
