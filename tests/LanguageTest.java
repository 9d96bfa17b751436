import java.io.IOException;
import java.lang.reflect.Modifier;
import java.nio.file.Files;
import java.nio.file.Path;
import java.util.regex.Matcher;
import java.util.regex.Pattern;

/** Those rules of LANGUAGE.md that can be seen from the source without understanding it, and the face. */
public final class LanguageTest {
  private static final String[] FACE = {"say", "wipe", "name", "unname", "draw", "join", "act", "days", "run", "transfer",
      "waive", "worth", "fine", "undo", "blank", "knock", "paper", "fault", "named", "text", "ofContract", "duties",
      "due", "told", "log", "account", "house", "reached", "found", "clash", "hopeless", "way", "alike", "apart", "pairs",
      "binds", "least", "sure", "isSound", "digest"};

  private static final String[] FORBIDDEN = {"\\bimport\\b", "\\bpackage\\b", "->", "::", "\\bsynchronized\\b",
      "\\bassert\\b", "\\bcatch\\b", "\\bfinally\\b", "String\\s*\\[\\]", "\\bHashMap\\b", "\\bString\\.valueOf\\b",
      "\\bstatic\\s*\\{", "Exact\\b", "\\bequals\\s*\\(\\s*Object", "\\bvar\\b", "\\binstanceof\\b", "\\bSystem\\.(?!arraycopy)",
      "\\bprotected\\b", "\"\\s*\\+", "\\+\\s*\""};

  public static void main(String[] args) throws IOException {
    String source = Files.readString(Path.of("src/main/java/Clausekeep.java"));
    String code = source.replaceAll("(?s)/\\*.*?\\*/", "").replaceAll("//[^\n]*", "");
    // what stands in a text or a comment is no code
    String bare = code.replaceAll("\"[^\"\n]*\"", "\"\"");
    for (String bad : FORBIDDEN) {
      Checks.same("whether the class has " + bad, Pattern.compile(bad).matcher(bare).find(), false);
    }
    Checks.same("whether all signs are plain", source.matches("[\\x0a\\x20-\\x7e]*"), true);
    Checks.same("the longest line", source.lines().mapToInt(String::length).max().orElse(0) <= 120, true);
    Checks.same("how many classes", count(code, "\\bclass\\s+\\w+") <= 12, true);
    face();
    signatures(Doc.plain(bare));
    for (Class<?> each : Clausekeep.class.getDeclaredClasses()) small(each);
    small(Clausekeep.class);
    Checks.same("the longest method", longestMethod(bare) <= 60, true);
    Checks.end();
  }

  /** At most seven parameters; what is static is final; an inner class is static, and private or package-visible. */
  private static void small(Class<?> each) {
    for (java.lang.reflect.Method method : each.getDeclaredMethods()) {
      Checks.same("whether " + method + " has at most 7 parameters", method.getParameterCount() <= 7, true);
      Checks.same("whether " + method + " is synchronized", Modifier.isSynchronized(method.getModifiers()), false);
    }
    for (java.lang.reflect.Field field : each.getDeclaredFields()) {
      int signs = field.getModifiers();
      Checks.same("whether " + field + " may be static", !Modifier.isStatic(signs) || Modifier.isFinal(signs), true);
    }
    if (each == Clausekeep.class) return;
    int signs = each.getModifiers();
    boolean isShut = !Modifier.isPublic(signs) && !Modifier.isProtected(signs);
    Checks.same("whether " + each + " is static and shut", Modifier.isStatic(signs) && isShut, true);
  }

  /** From a row that opens a method's braces to the row that closes them by the same blanks ahead. */
  private static int longestMethod(String code) {
    String[] rows = code.split("\n", -1);
    int longest = 0;
    for (int i = 0; i < rows.length; i++) {
      if (!rows[i].matches(" +(public |private |static )*[\\w\\[\\]]+ ?\\w*\\([^;]*\\) ?(throws [\\w, ]+)?\\{")) continue;
      String end = rows[i].replaceAll("^( *).*", "$1}");
      int last = i;
      while (last < rows.length && !rows[last].equals(end)) last++;
      longest = Math.max(longest, last - i + 1);
    }
    Checks.same("whether methods were found", longest > 10, true);
    return longest;
  }

  private static int count(String text, String pattern) {
    Matcher found = Pattern.compile(pattern).matcher(text);
    int many = 0;
    while (found.find()) many++;
    return many;
  }

  /** The face of the document stands in the class word by word. */
  private static void signatures(String code) {
    int signatures = 0;
    for (String row : Doc.face()) {
      String due = row.replaceAll(";$", " {");
      Checks.same("whether the class has \"" + due + '"', code.contains(due), true);
      signatures++;
    }
    Checks.same("signatures, with the class and the constructor", signatures, FACE.length + 2);
  }

  private static void face() {
    java.util.Set<String> due = java.util.Set.of(FACE);
    int faces = 0;
    for (java.lang.reflect.Method method : Clausekeep.class.getDeclaredMethods()) {
      boolean isPublic = java.lang.reflect.Modifier.isPublic(method.getModifiers());
      boolean isPrivate = java.lang.reflect.Modifier.isPrivate(method.getModifiers());
      Checks.same("whether " + method + " is of the face", due.contains(method.getName()), isPublic);
      Checks.same("whether " + method + " is public or private", isPublic || isPrivate, true);
      if (isPublic) faces++;
    }
    Checks.same("how many methods the face has", faces, FACE.length);
    for (java.lang.reflect.Field field : Clausekeep.class.getDeclaredFields()) {
      Checks.same("whether " + field + " is private", java.lang.reflect.Modifier.isPrivate(field.getModifiers()), true);
    }
    int kept = 0;
    for (Class<?> inner : Clausekeep.class.getDeclaredClasses()) {
      for (java.lang.reflect.Method method : inner.getDeclaredMethods()) {
        Checks.same("whether " + method + " has a name of the face", due.contains(method.getName()), false);
      }
      int fields = 0;
      for (java.lang.reflect.Field field : inner.getDeclaredFields()) {
        if (!java.lang.reflect.Modifier.isStatic(field.getModifiers())) fields++;
      }
      Checks.same("whether " + inner + " has at most 20 fields", fields <= 20, true);
      kept++;
    }
    Checks.same("classes inside", kept > 0, true);
  }
}
