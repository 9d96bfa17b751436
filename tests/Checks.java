import java.util.ArrayList;
import java.util.List;

/** What the tests use: a hall with typed texts, and checks that count what is wrong. */
final class Checks {
  static final String SIGNS = "0123456789ABCpqrs+~-[|]&/;@#*().";
  private static final List<String> QUOTES = new ArrayList<>();
  private static int wrong = 0;
  private static String quote = "";
  private static int checksOfQuote = 1;

  private Checks() {
  }

  interface Call {
    Object answer();
  }

  static void same(String what, Object got, Object due) {
    checksOfQuote++;
    if (due.equals(got)) return;
    wrong++;
    System.out.println(what + " answered " + got + ", due is " + due + (quote.isEmpty() ? "" : " (" + quote + ")"));
  }

  // ---- the words of the document

  /** What is checked from here on holds the class to these words of a promise (0: of what stands ahead of them). */
  static void quote(int promise, String words) {
    closeQuote();
    String plain = promise + ": " + Doc.plain(words);
    same("whether the document says \"" + words + "\"", Doc.has(promise, words), true);
    QUOTES.add(plain);
    quote = plain;
    checksOfQuote = 0;
  }

  private static void closeQuote() {
    if (checksOfQuote == 0) same("what is checked of \"" + quote + "\"", "nothing", "something");
    quote = "";
  }

  /** Each sentence of the document that names a boundary case has been quoted, or a piece of it. */
  static void allBoundsAreQuoted() {
    closeQuote();
    for (int promise = 0; promise <= Doc.PROMISES; promise++) {
      for (String bound : Doc.bounds(promise)) {
        boolean isQuoted = false;
        for (String words : QUOTES) {
          if (!words.startsWith(promise + ": ")) continue;
          String rest = words.substring(words.indexOf(' ') + 1);
          if (rest.contains(bound) || bound.contains(rest)) isQuoted = true;
        }
        same("whether a test quotes " + promise + ": " + bound, isQuoted, true);
      }
    }
  }

  // ---- refused calls

  /** Exactly that exception is thrown (none below it), and nothing is changed by the refused call. */
  static void refused(Clausekeep hall, String what, Class<?> due, Call call) {
    String before = all(hall);
    Object got;
    try {
      got = call.answer();
    } catch (RuntimeException e) {
      got = e.getClass();
    }
    same(what, got, due);
    same("all that is told after the refused " + what, all(hall), before);
  }

  static void badNumber(Clausekeep hall, String what, Call call) {
    refused(hall, what, IllegalArgumentException.class, call);
  }

  static void badPlace(Clausekeep hall, String what, Call call) {
    refused(hall, what, IndexOutOfBoundsException.class, call);
  }

  static void badState(Clausekeep hall, String what, Call call) {
    refused(hall, what, IllegalStateException.class, call);
  }

  /** The call answers -9, and nothing is changed by it. */
  static void minusNine(Clausekeep hall, String what, Call call) {
    String before = all(hall);
    same(what, call.answer(), -9);
    same("all that is told after " + what + " with -9", all(hall), before);
  }

  /** All that a hall tells, but for WORTHS. */
  static String all(Clausekeep hall) {
    StringBuilder told = new StringBuilder();
    told.append(hall.paper(false)).append(' ').append(hall.paper(true)).append(' ').append(hall.fault());
    for (int i = 0; i < 6; i++) told.append(' ').append(hall.named(i));
    for (int i = 0; i < 4; i++) {
      told.append('\n').append(hall.text(i)).append(' ').append(hall.told(i)).append(' ').append(hall.log(i));
    }
    for (int i = 0; i < 3; i++) told.append(' ').append(hall.account(i));
    for (int i = 0; i < 8; i++) told.append(' ').append(hall.house(i));
    return told.append(' ').append(hall.isSound()).append(' ').append(hall.digest()).toString();
  }

  /** All that undo() brings back, but for WORTHS. */
  static String held(Clausekeep hall) {
    StringBuilder told = new StringBuilder();
    for (int i = 0; i < 6; i++) told.append(' ').append(hall.named(i));
    for (int i = 0; i < 4; i++) {
      told.append('\n').append(hall.text(i)).append(' ').append(hall.told(i)).append(' ').append(hall.log(i));
    }
    for (int i = 0; i < 3; i++) told.append(' ').append(hall.account(i));
    return told.append(' ').append(hall.house(4)).toString();
  }

  /** All WORTHS, which are 0 then: they are told by worth() alone. */
  static String worths(Clausekeep hall) {
    StringBuilder told = new StringBuilder();
    for (int i = 0; i < 36; i++) told.append(hall.worth(i / 12, i / 3 % 4, i % 3, 0)).append(' ');
    return told.toString();
  }

  // ---- halls

  static void type(Clausekeep hall, String text) {
    for (int from = 0; from < text.length(); from += 6) {
      int[] s = {-1, -1, -1, -1, -1, -1};
      for (int i = 0; i < 6 && from + i < text.length(); i++) s[i] = SIGNS.indexOf(text.charAt(from + i));
      hall.say(s[0], s[1], s[2], s[3], s[4], s[5]);
    }
  }

  /** A hall with that on its paper. */
  static Clausekeep typed(String text) {
    Clausekeep hall = new Clausekeep();
    type(hall, text);
    return hall;
  }

  /** A hall with such contracts, from 0 on. */
  static Clausekeep hall(String... texts) {
    Clausekeep hall = new Clausekeep();
    for (int i = 0; i < texts.length; i++) drawn(hall, i, texts[i]);
    return hall;
  }

  static void drawn(Clausekeep hall, int contract, String text) {
    hall.wipe();
    type(hall, text);
    same("whether \"" + text + "\" is drawn", hall.draw(contract) > 0, true);
  }

  static void kept(Clausekeep hall, int name, String text) {
    hall.wipe();
    type(hall, text);
    same("whether \"" + text + "\" is kept", hall.name(name) > 0, true);
  }

  /** That row comes to a contract. */
  static int run(Clausekeep hall, int contract, String row) {
    hall.wipe();
    type(hall, row);
    return hall.run(contract);
  }

  static String times(String text, int many) {
    return text.repeat(many);
  }

  /** A text of at most 40 signs whose clause is a row of ";" with so many signs (14, and all from 17 on, to 62). */
  static String rowOfSize(String duty, int size) {
    int tills = 0;
    while ((size + 1 - 3 * tills) % 5 != 0) tills++;
    int duties = (size + 1 - 3 * tills) / 5;
    StringBuilder text = new StringBuilder(duty).append(times("@Bq", tills));
    for (int rest = duties - 1; rest > 0; rest -= 4) {
      text.append(';').append(rest == 1 ? "" : Math.min(rest, 4) + "*").append(duty);
    }
    return text.toString();
  }

  static void end() {
    closeQuote();
    if (wrong != 0) System.exit(1);
  }
}
