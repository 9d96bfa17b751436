/** What the tests use: a hall with typed texts, and checks that count what is wrong. */
final class Checks {
  static final String SIGNS = "0123456789ABCpqrs+~-[|]&/;@#*().";
  private static int wrong = 0;

  private Checks() {
  }

  interface Call {
    Object answer();
  }

  static void same(String what, Object got, Object due) {
    if (due.equals(got)) return;
    wrong++;
    System.out.println(what + " answered " + got + ", due is " + due);
  }

  /** Exactly that exception is thrown (none below it), and nothing is changed by the refused call. */
  static void refused(Clausekeep hall, String what, Class<?> due, Call call) {
    String before = all(hall);
    Object got;
    try {
      got = call.answer();
    } catch (RuntimeException e) {
      got = e.getClass();
    }
    same(what, got, due);
    same("all that is told after the refused " + what, all(hall), before);
  }

  static void badNumber(Clausekeep hall, String what, Call call) {
    refused(hall, what, IllegalArgumentException.class, call);
  }

  static void badPlace(Clausekeep hall, String what, Call call) {
    refused(hall, what, IndexOutOfBoundsException.class, call);
  }

  static void badState(Clausekeep hall, String what, Call call) {
    refused(hall, what, IllegalStateException.class, call);
  }

  /** All that a hall tells, but for WORTHS. */
  static String all(Clausekeep hall) {
    StringBuilder told = new StringBuilder();
    told.append(hall.paper(false)).append(' ').append(hall.paper(true)).append(' ').append(hall.fault());
    for (int i = 0; i < 6; i++) told.append(' ').append(hall.named(i));
    for (int i = 0; i < 4; i++) {
      told.append('\n').append(hall.text(i)).append(' ').append(hall.told(i)).append(' ').append(hall.log(i));
    }
    for (int i = 0; i < 3; i++) told.append(' ').append(hall.account(i));
    for (int i = 0; i < 8; i++) told.append(' ').append(hall.house(i));
    return told.append(' ').append(hall.isSound()).append(' ').append(hall.digest()).toString();
  }

  static void type(Clausekeep hall, String text) {
    for (int from = 0; from < text.length(); from += 6) {
      int[] s = {-1, -1, -1, -1, -1, -1};
      for (int i = 0; i < 6 && from + i < text.length(); i++) s[i] = SIGNS.indexOf(text.charAt(from + i));
      hall.say(s[0], s[1], s[2], s[3], s[4], s[5]);
    }
  }

  /** A hall with such contracts, from 0 on. */
  static Clausekeep hall(String... texts) {
    Clausekeep hall = new Clausekeep();
    for (int i = 0; i < texts.length; i++) drawn(hall, i, texts[i]);
    return hall;
  }

  static void drawn(Clausekeep hall, int contract, String text) {
    hall.wipe();
    type(hall, text);
    same("whether \"" + text + "\" is drawn", hall.draw(contract) > 0, true);
  }

  static void kept(Clausekeep hall, int name, String text) {
    hall.wipe();
    type(hall, text);
    same("whether \"" + text + "\" is kept", hall.name(name) > 0, true);
  }

  static void end() {
    if (wrong != 0) System.exit(1);
  }
}
