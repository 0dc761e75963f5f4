import java.io.IOException;
import java.lang.reflect.Method;
import java.lang.reflect.Modifier;
import java.nio.file.Files;
import java.nio.file.Path;
import java.util.Set;
import java.util.TreeSet;
import java.util.regex.Matcher;
import java.util.regex.Pattern;
import java.util.stream.Collectors;
import java.util.stream.Stream;

/** What README.md says: the answers of its example, the calls it lists, the files it names. */
public final class ReadmeTest {
  private static final Pattern EXAMPLE = Pattern.compile("(?m)^row\\.(\\w+)\\(([^)]*)\\);\\s+// (-?\\d+):");
  private static final Pattern TABLE_ROW = Pattern.compile("(?m)^\\|.*\\|$");
  private static final Pattern QUOTED_WORD = Pattern.compile("`(\\w+)`");
  private static final Pattern TEST_FILE = Pattern.compile("`(src/test/java/\\w+\\.java)`");
  private static int wrong = 0;

  private static void need(boolean held, String text) {
    if (!held) {
      wrong++;
      System.out.println(text);
    }
  }

  public static void main(String[] args) throws IOException {
    String page = Files.readString(Path.of("README.md"));
    checkExample(page);
    checkTable(page);
    checkFiles(page);
    System.out.println(wrong == 0 ? "the readme holds" : wrong + " things of the readme do not hold");
    if (wrong != 0) System.exit(1);
  }

  private static void checkExample(String page) {
    Calls row = Calls.of(new ArsenalRow());
    int found = 0;
    Matcher m = EXAMPLE.matcher(page);
    while (m.find()) {
      found++;
      String[] words = m.group(2).split(", ");
      int[] a = new int[words.length];
      for (int k = 0; k < a.length; k++) a[k] = Integer.parseInt(words[k]);
      int got = row.call(m.group(1), a);
      need(got == Integer.parseInt(m.group(3)), m.group().trim() + " answered " + got);
    }
    need(found == page.split("(?m)^row\\.", -1).length - 1 && found > 0, "each call of the example has its answer");
  }

  private static void checkTable(String page) {
    Set<String> listed = new TreeSet<>();
    Matcher line = TABLE_ROW.matcher(page);
    while (line.find()) {
      Matcher word = QUOTED_WORD.matcher(line.group());
      while (word.find()) need(listed.add(word.group(1)), word.group(1) + " is listed once");
    }
    Set<String> face = new TreeSet<>();
    for (Method m : ArsenalRow.class.getDeclaredMethods()) {
      if (Modifier.isPublic(m.getModifiers())) face.add(m.getName());
    }
    need(listed.equals(face), "the table lists " + listed + ", the calls are " + face);
  }

  private static void checkFiles(String page) throws IOException {
    Set<String> named = new TreeSet<>();
    Matcher m = TEST_FILE.matcher(page);
    while (m.find()) named.add(m.group(1));
    Set<String> there;
    try (Stream<Path> files = Files.list(Path.of("src/test/java"))) {
      there = files.map(f -> f.toString().replace('\\', '/')).collect(Collectors.toCollection(TreeSet::new));
    }
    need(named.equals(there), "the page names " + named + ", there are " + there);
  }
}
