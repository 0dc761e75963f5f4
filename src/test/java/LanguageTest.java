import java.lang.reflect.Array;
import java.lang.reflect.Constructor;
import java.lang.reflect.Field;
import java.lang.reflect.Method;
import java.lang.reflect.Modifier;
import java.nio.file.Files;
import java.nio.file.Path;
import java.util.ArrayList;
import java.util.Arrays;
import java.util.IdentityHashMap;
import java.util.List;
import java.util.Map;
import java.util.Set;
import java.util.TreeSet;
import java.util.regex.Matcher;
import java.util.regex.Pattern;

/** The rules of LANGUAGE.md that can be seen from the compiled class or from the words of the source. */
public final class LanguageTest {
  private static final String[] BARRED = {
      "\\bthrow\\b", "\\btry\\b", "\\bcatch\\b", "\\bsynchronized\\b", "\\bassert\\b", "->", "::",
      "\\bhashCode\\b", "\\bSystem\\.(?!arraycopy)", "\\w+Exact\\b", "\\bprotected\\b", "\\bpackage\\b",
      "\\bimport (?!java\\.util\\.Arrays;)", "[^\\x00-\\x7f]", "\\bstatic \\{", "\\bM(AX|IN)_VALUE\\b",
      "\\bArrays\\.(?!(fill|copyOf|copyOfRange)\\()", "\\bequals\\b", "\\btoString\\b", "\\bclass \\w+ extends\\b"};
  /** What one object may be made of, so that the room of all calls has place for a thousand objects. */
  private static final int MOST_OBJECTS = 250;
  private static final int MOST_ELEMENTS = 6000;
  private static final int MOST_LINES = 60;
  private static int wrong = 0;

  private static void need(boolean held, String rule) {
    if (!held) {
      wrong++;
      System.out.println(rule);
    }
  }

  public static void main(String[] args) throws Exception {
    String source = Files.readString(Path.of("src/main/java/ArsenalRow.java"));
    String doc = Files.readString(Path.of("../shared/DOC.md"));
    Set<String> face = faceOf(doc);
    List<Class<?>> classes = new ArrayList<>(Arrays.asList(ArsenalRow.class.getDeclaredClasses()));
    checkFace(face);
    for (Class<?> c : classes) {
      need(Modifier.isStatic(c.getModifiers()) || c.isInterface(), "2: " + c + " is static");
    }
    classes.add(ArsenalRow.class);
    need(classes.size() <= 12, "11: some twelve classes");
    for (Class<?> c : classes) checkClass(c, face);
    String code = source.replaceAll("(?s)/\\*.*?\\*/", "").replaceAll("//[^\n]*", "");
    checkWords(code);
    checkMethods(code);
    checkRoom();
    System.out.println(wrong == 0 ? "the language is kept to" : wrong + " rules are not kept to");
    if (wrong != 0) System.exit(1);
  }

  private static Set<String> faceOf(String doc) {
    Set<String> face = new TreeSet<>();
    Matcher m = Pattern.compile("public int (\\w+)\\(([^)]*)\\);").matcher(doc);
    while (m.find()) {
      int parameters = m.group(2).isEmpty() ? 0 : m.group(2).split(",").length;
      face.add(m.group(1) + "/" + parameters);
    }
    return face;
  }

  private static void checkFace(Set<String> face) {
    need(Modifier.isPublic(ArsenalRow.class.getModifiers()) && Modifier.isFinal(ArsenalRow.class.getModifiers()),
        "1: public and final");
    Set<String> found = new TreeSet<>();
    for (Method m : ArsenalRow.class.getDeclaredMethods()) {
      if (Modifier.isPublic(m.getModifiers())) found.add(m.getName() + "/" + m.getParameterCount());
      else need(Modifier.isPrivate(m.getModifiers()), "1: " + m + " is private");
    }
    need(face.size() == 36 && found.equals(face), "1: the face is " + face + ", here it is " + found);
    for (Field f : ArsenalRow.class.getDeclaredFields()) need(Modifier.isPrivate(f.getModifiers()), "1: " + f + " is private");
    Constructor<?>[] all = ArsenalRow.class.getDeclaredConstructors();
    need(all.length == 1 && Modifier.isPublic(all[0].getModifiers()) && all[0].getParameterCount() == 0, "1: one constructor");
  }

  private static void checkClass(Class<?> c, Set<String> face) {
    int fields = 0;
    for (Field f : c.getDeclaredFields()) {
      if (!Modifier.isStatic(f.getModifiers())) fields++;
      else need(Modifier.isFinal(f.getModifiers()), "5: " + f + " is final");
    }
    need(fields <= 20, "11: " + c + " has " + fields + " fields");
    for (Method m : c.getDeclaredMethods()) {
      need(m.getParameterCount() <= 7, "11: " + m + " takes at most seven");
      boolean ofFace = c == ArsenalRow.class && Modifier.isPublic(m.getModifiers());
      for (String one : face) {
        need(ofFace || !one.startsWith(m.getName() + "/"), "1: " + m + " bears a public name");
      }
    }
  }

  private static void checkWords(String code) {
    for (String barred : BARRED) {
      Matcher m = Pattern.compile(barred).matcher(code);
      need(!m.find(), "the source has " + barred);
    }
  }

  /** Methods as they are indented here: short, and only constructors make something. */
  private static void checkMethods(String code) {
    String head = "";
    int begun = 0;
    String[] lines = code.split("\n");
    for (int k = 0; k < lines.length; k++) {
      String line = lines[k];
      if (head.isEmpty() && line.matches(" {2}( {2})?[\\w\\[\\] ]+\\(.*\\) \\{")) {
        head = line;
        begun = k;
      }
      boolean makes = !head.isEmpty() && line.contains("new ");
      need(!makes || head.matches(" +(public )?[A-Z]\\w*\\(.*"), "12: made in a method: " + line.trim());
      if (!head.isEmpty() && line.equals(head.replaceAll("\\S.*", "}"))) {
        need(k - begun < MOST_LINES, "11: too long: " + head.trim());
        head = "";
      }
    }
    need(head.isEmpty(), "the end of a method was not found: " + head.trim());
  }

  /** Counts what an object is made of, as "All calls of one run live in ONE room" asks. */
  private static void checkRoom() throws IllegalAccessException {
    Map<Object, Boolean> seen = new IdentityHashMap<>();
    long elements = countElements(new ArsenalRow(), seen);
    need(seen.size() <= MOST_OBJECTS, "an object is made of " + seen.size() + " objects");
    need(elements <= MOST_ELEMENTS, "an object is made of " + elements + " fields and elements");
  }

  private static long countElements(Object o, Map<Object, Boolean> seen) throws IllegalAccessException {
    if (o == null || seen.put(o, true) != null) return 0;
    long sum = 0;
    if (o.getClass().isArray()) {
      sum = Array.getLength(o);
      if (o instanceof Object[]) {
        for (Object one : (Object[]) o) sum += countElements(one, seen);
      }
      return sum;
    }
    for (Field f : o.getClass().getDeclaredFields()) {
      if (Modifier.isStatic(f.getModifiers())) continue;
      sum++;
      f.setAccessible(true);
      if (!f.getType().isPrimitive()) sum += countElements(f.get(o), seen);
    }
    return sum;
  }
}
