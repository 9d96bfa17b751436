import java.io.IOException;
import java.lang.reflect.InvocationTargetException;
import java.net.URL;
import java.net.URLClassLoader;
import java.nio.file.Files;
import java.nio.file.Path;
import java.util.ArrayList;
import java.util.List;
import java.util.regex.Matcher;
import java.util.regex.Pattern;
import java.util.stream.Collectors;
import java.util.stream.Stream;
import javax.tools.ToolProvider;

/** README.md: its rows are compiled as one program, and each answers what stands behind it; nothing is left out. */
public final class ReadmeTest {
  private static final Pattern BLOCK = Pattern.compile("```java\n(.*?)```", Pattern.DOTALL);
  private static final Pattern ASKED = Pattern.compile("(hall\\.\\w+\\(.*\\)); +// (\"[^\"]*\"|[^:;,]+).*");

  public static void main(String[] args) throws Exception {
    String readme = Files.readString(Path.of("README.md"));
    rows(readme);
    face(readme);
    signs(readme);
    tests(readme);
    Checks.end();
  }

  /** All rows of Java, in their order: what is static beside the others, which are one method. */
  private static void rows(String readme) throws Exception {
    StringBuilder members = new StringBuilder();
    StringBuilder body = new StringBuilder();
    List<String> calls = new ArrayList<>();
    List<String> due = new ArrayList<>();
    Matcher blocks = BLOCK.matcher(readme);
    while (blocks.find()) {
      if (blocks.group(1).startsWith("static ")) {
        members.append(blocks.group(1));
        continue;
      }
      for (String row : blocks.group(1).split("\n")) {
        Matcher parts = ASKED.matcher(row);
        if (parts.matches()) {
          calls.add(parts.group(1));
          due.add(parts.group(2).replace("\"", "").trim());
          body.append("told.add(String.valueOf(").append(parts.group(1)).append("));\n");
        } else {
          Checks.same("whether the answer of " + row + " is told", !row.startsWith("hall."), true);
          body.append(row).append('\n');
        }
      }
    }
    Checks.same("how many answers are told", calls.size() > 40, true);
    List<String> told = told("public final class Rows {\n" + members
        + "public static void run(java.util.List<String> told) {\n" + body + "}\n}\n");
    for (int i = 0; i < calls.size(); i++) {
      Checks.same("README.md: " + calls.get(i), i < told.size() ? told.get(i) : "nothing", due.get(i));
    }
  }

  private static List<String> told(String source) throws Exception {
    Path room = Files.createTempDirectory("readme");
    Path file = room.resolve("Rows.java");
    Files.writeString(file, source);
    String classes = System.getProperty("java.class.path");
    int faults = ToolProvider.getSystemJavaCompiler().run(null, null, null, "-encoding", "UTF-8", "-cp", classes, "-d",
        room.toString(), file.toString());
    List<String> told = new ArrayList<>();
    Checks.same("faults of README.md's rows as a program", faults, 0);
    if (faults == 0) {
      try (URLClassLoader loader = new URLClassLoader(new URL[] {room.toUri().toURL()})) {
        loader.loadClass("Rows").getDeclaredMethod("run", List.class).invoke(null, told);
      } catch (InvocationTargetException e) {
        Checks.same("what README.md's rows throw", e.getCause(), "nothing");
      }
    }
    try (Stream<Path> made = Files.list(room)) {
      for (Path each : made.collect(Collectors.toList())) Files.delete(each);
    }
    Files.delete(room);
    return told;
  }

  private static void face(String readme) {
    for (java.lang.reflect.Method method : Clausekeep.class.getDeclaredMethods()) {
      if (!java.lang.reflect.Modifier.isPublic(method.getModifiers())) continue;
      Checks.same("whether README.md names " + method.getName(), readme.contains(method.getName() + "("), true);
    }
    for (Class<?> thrown : List.of(IndexOutOfBoundsException.class, IllegalArgumentException.class,
        IllegalStateException.class)) {
      Checks.same("whether README.md names " + thrown, readme.contains("`" + thrown.getSimpleName() + "`"), true);
    }
  }

  /** The row of signs in it is that by which say() types, and 512 is the document's number of calls. */
  private static void signs(String readme) {
    Clausekeep hall = new Clausekeep();
    for (int sign = 0; sign < 32; sign++) hall.say(sign, -1, -1, -1, -1, -1);
    Checks.same("whether README.md has the signs", readme.contains("`" + hall.paper(false) + "`"), true);
    Checks.same("whether DOC.md has 512 calls", Doc.has(0, "at most 512 calls"), readme.contains("at most 512 calls"));
  }

  /** Each test that .ci/run runs is named, and each that is named is there. */
  private static void tests(String readme) throws IOException {
    try (Stream<Path> files = Files.list(Path.of("tests"))) {
      for (Path file : files.collect(Collectors.toList())) {
        if (!Files.readString(file).contains("static void main")) continue;
        String name = file.getFileName().toString().replace(".java", "");
        Checks.same("whether README.md names " + name, readme.contains("`" + name + "`"), true);
      }
    }
    Matcher named = Pattern.compile("`(\\w+Test)`").matcher(readme);
    while (named.find()) {
      Path file = Path.of("tests", named.group(1) + ".java");
      Checks.same("whether there is " + file, Files.exists(file), true);
    }
    Checks.same("whether README.md names .ci/run", readme.contains(".ci/run"), true);
    Checks.same("whether .ci/run can be run", Files.isExecutable(Path.of(".ci/run")), true);
  }
}
