import java.io.IOException;
import java.nio.file.Files;
import java.nio.file.Path;
import java.util.ArrayList;
import java.util.List;
import java.util.regex.Pattern;

/** The document, cut into its parts: 0 is all that stands ahead of the promises, then promise by promise. */
final class Doc {
  static final int PROMISES = 41;
  /** What a sentence that names a boundary case is known by. */
  private static final Pattern BOUND = Pattern.compile("Throws|-9|\"-\"|\"!\"|NONE|\\bempty\\b|[Aa]t most|at first|last 8"
      + "|wraps around|with 0|\"\" without|never was|more than|[Tt]he smallest|TOO MANY|or the same|above 60|changes nothing"
      + "|named first|[Ww]ithout PARTS|with one it is|if all are|are left|0 to \\d|DAYS 0|which PART|from 0 on|512|instead of"
      + "|two or more|2 to 4|itself by none|or none|5 EVENTS|a beginning ahead|so often|end is missed|nothing is kept"
      + "|starts with|otherwise 0|again and again|that before|with this");
  private static final String[] PARTS = read();

  private Doc() {
  }

  private static String[] read() {
    try {
      return Files.readString(Path.of("../shared/DOC.md")).split("\n## Promise \\d+: |\n## Not promised");
    } catch (IOException e) {
      throw new IllegalStateException("../shared/DOC.md cannot be read", e);
    }
  }

  static String plain(String words) {
    return words.replaceAll("\\s+", " ").trim();
  }

  static boolean has(int promise, String words) {
    return promise >= 0 && promise <= PROMISES && plain(PARTS[promise]).contains(plain(words));
  }

  /** The rows of the public face: the class, its constructor, its methods. */
  static List<String> face() {
    List<String> rows = new ArrayList<>();
    for (String row : PARTS[0].split("\n")) {
      if (row.startsWith("public ") || row.startsWith("    public ")) rows.add(plain(row));
    }
    return rows;
  }

  /** The sentences of a part, or the pieces between its ":" and ";", that name a boundary case. */
  static List<String> bounds(int promise) {
    List<String> all = new ArrayList<>();
    for (String row : PARTS[promise].split("\n")) {
      if (row.startsWith("`") || row.startsWith("    public")) continue;
      for (String sentence : row.split("(?<=[.)]) (?=[A-Z\"])|(?<=[:;]) (?=[A-Z\"0-9])")) {
        if (BOUND.matcher(sentence).find()) all.add(plain(sentence));
      }
    }
    return all;
  }
}
