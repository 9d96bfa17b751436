import java.io.PrintWriter;
import java.io.StringWriter;
import java.util.ArrayDeque;
import java.util.ArrayList;
import java.util.Deque;
import java.util.HashMap;
import java.util.LinkedHashMap;
import java.util.List;
import java.util.Map;
import java.util.Set;
import java.util.TreeSet;
import java.util.regex.Matcher;
import java.util.regex.Pattern;
import java.util.spi.ToolProvider;

/** What the compiled class calls: the library of LANGUAGE.md's rule 4 alone, what calls itself, and how deep it goes. */
public final class CallsTest {
  private static final Set<String> LIBRARY = Set.of("Object.<init>", "IllegalArgumentException.<init>",
      "IllegalStateException.<init>", "IndexOutOfBoundsException.<init>", "Integer.bitCount", "Math.floorMod", "Math.max",
      "Math.min", "String.charAt", "String.indexOf:(I)", "String.length", "StringBuilder.<init>",
      "StringBuilder.append:(C)", "StringBuilder.reverse", "StringBuilder.setLength", "StringBuilder.toString",
      "System.arraycopy");
  /** What calls itself: each has a depth, fewer turns, or so many open brackets as an argument. */
  private static final Set<String> RECURSIVE = Set.of("[Clauses.left]", "[Clauses.handed]", "[Clauses.findNow]",
      "[Reader.core, Reader.duty, Reader.row, Reader.unit]", "[gainOf, sureOf, worstOf]");
  private static final int DEEPEST = 8;
  private static final Pattern METHOD = Pattern.compile("  (?!static \\{)(?:[\\w.$\\[\\]]+ )*([\\w.$]+)\\((.*)\\).*;");
  private static final Pattern CALL = Pattern.compile("invoke\\w+ .*Method (?:([\\w/$]+)\\.)?\"?([\\w<>]+)\"?:(\\([^)]*\\))");

  private static final Map<String, Set<String>> CALLS = new LinkedHashMap<>();
  private static final Map<String, Integer> PLACES = new HashMap<>();
  private static final Map<String, Integer> LOWEST = new HashMap<>();
  private static final Map<String, Set<String>> CIRCLES = new HashMap<>();
  private static final Deque<String> OPEN = new ArrayDeque<>();

  public static void main(String[] args) {
    read("Clausekeep");
    for (Class<?> inner : Clausekeep.class.getDeclaredClasses()) read(inner.getName());
    Checks.same("how many methods were found", CALLS.size() > 150, true);
    for (String method : new ArrayList<>(CALLS.keySet())) {
      if (!PLACES.containsKey(method)) circle(method);
    }
    for (Set<String> circle : CIRCLES.values()) {
      boolean isRecursive = circle.size() > 1 || CALLS.get(circle.iterator().next()).containsAll(circle);
      if (isRecursive) Checks.same("whether " + circle + " may call itself", RECURSIVE.contains(circle + ""), true);
    }
    for (String method : CALLS.keySet()) {
      List<String> way = deepest(method);
      Checks.same("how deep " + way + " goes, at most " + DEEPEST, way.size() <= DEEPEST, true);
    }
    Checks.end();
  }

  /** A method is told by its class (nothing for the outer one) and its name: no two of a class have one name. */
  private static String told(String type, String name) {
    String inner = type.replaceAll("^Clausekeep\\$?", "");
    return inner.isEmpty() ? name : inner + '.' + name;
  }

  private static void read(String type) {
    StringWriter words = new StringWriter();
    PrintWriter out = new PrintWriter(words);
    String path = System.getProperty("java.class.path");
    int faults = ToolProvider.findFirst("javap").orElseThrow().run(out, out, "-c", "-p", "-cp", path, type);
    Checks.same("faults of javap with " + type, faults, 0);
    Set<String> calls = new TreeSet<>();
    for (String row : words.toString().split("\n")) {
      Matcher method = METHOD.matcher(row);
      if (method.matches()) {
        String name = method.group(1).equals(type) ? "<init>" : method.group(1);
        calls = new TreeSet<>();
        Checks.same("whether " + told(type, name) + " is there twice", CALLS.put(told(type, name), calls) != null, false);
      }
      Matcher call = CALL.matcher(row);
      if (call.find()) note(type, call, calls);
      Checks.same("whether a lambda is made: " + row, row.contains("invokedynamic"), false);
      Checks.same("whether a type is asked or cast: " + row, row.matches(".*: (checkcast|instanceof) .*"), false);
      Checks.same("whether something is caught: " + row, row.trim().equals("Exception table:"), false);
    }
  }

  private static void note(String type, Matcher call, Set<String> calls) {
    String owner = call.group(1) == null ? type : call.group(1);
    if (owner.startsWith("Clausekeep")) {
      calls.add(told(owner, call.group(2)));
      return;
    }
    String name = owner.replaceAll("^java/lang/", "") + '.' + call.group(2);
    boolean isListed = LIBRARY.contains(name) || LIBRARY.contains(name + ':' + call.group(3));
    Checks.same("whether the library's " + name + call.group(3) + " may be used", isListed, true);
  }

  /** Tarjan's walk: methods that call one another come into one set. */
  private static void circle(String method) {
    PLACES.put(method, PLACES.size());
    LOWEST.put(method, PLACES.get(method));
    OPEN.push(method);
    for (String next : CALLS.get(method)) {
      Checks.same("whether " + next + " is known", CALLS.containsKey(next), true);
      if (!PLACES.containsKey(next)) {
        circle(next);
        LOWEST.merge(method, LOWEST.get(next), Math::min);
      } else if (OPEN.contains(next)) {
        LOWEST.merge(method, PLACES.get(next), Math::min);
      }
    }
    if (!LOWEST.get(method).equals(PLACES.get(method))) return;
    Set<String> all = new TreeSet<>();
    String last;
    do {
      last = OPEN.pop();
      all.add(last);
      CIRCLES.put(last, all);
    } while (!last.equals(method));
  }

  /** The longest row of calls from that one on; those of a circle count once. */
  private static List<String> deepest(String method) {
    Set<String> circle = CIRCLES.get(method);
    List<String> longest = List.of();
    for (String each : circle) {
      for (String next : CALLS.get(each)) {
        if (circle.contains(next)) continue;
        List<String> way = deepest(next);
        if (way.size() > longest.size()) longest = way;
      }
    }
    List<String> whole = new ArrayList<>();
    whole.add(circle.size() > 1 ? circle + "" : method);
    whole.addAll(longest);
    return whole;
  }
}
