import java.nio.file.Files;
import java.nio.file.Path;
import java.util.List;
import java.util.Set;
import java.util.TreeSet;
import java.util.regex.Matcher;
import java.util.regex.Pattern;

/**
 * The rules of ../shared/LANGUAGE.md that a look at the text can tell; its first argument is the path of the class.
 * What the text cannot tell (that no call fails to end, say) is left to the other tests.
 */
public final class LanguageTest {
  private static final Set<String> FUNCTIONS = Set.of("Math.max", "Math.min", "Math.floorMod");
  private static final List<String> FORBIDDEN = List.of("package ", "synchronized", "assert ", "finally", "try ", "catch",
      "->", "::", "Object", "System.", "String.format", "@", "%f", "Exact(", "\\u", "protected", "native", "volatile",
      "instanceof", "equals", "hashCode", "toString", "var ", "goto", "import static", "import java.util.*");
  private static final int MOST_LINES = 60;
  private static final int MOST_PARAMETERS = 7;
  private static final int MOST_CLASSES = 12;

  private static int wrong = 0;

  private static void hold(boolean holds, String what) {
    if (!holds) { wrong++; System.out.println("LanguageTest: " + what); }
  }

  private static Set<String> found(String text, String pattern) {
    Set<String> all = new TreeSet<>();
    Matcher m = Pattern.compile(pattern).matcher(text);
    while (m.find()) all.add(m.group(1));
    return all;
  }

  private static void words(String code) {
    for (String word : FORBIDDEN) hold(!code.contains(word), "the text holds " + word);
    for (int i = 0; i < code.length(); i++) hold(code.charAt(i) < 128, "a sign beyond 127 at " + i);
    hold(found(code, "import ([\\w.]+);").equals(Set.of("java.util.NoSuchElementException")), "other imports");
    hold(FUNCTIONS.containsAll(found(code, "\\b([A-Z]\\w*\\.[a-z]\\w*)\\(")), "other functions of the library");
    Set<String> listed = Set.of("IllegalStateException", "IllegalArgumentException", "IndexOutOfBoundsException",
        "ArithmeticException", "UnsupportedOperationException", "NoSuchElementException");
    hold(listed.containsAll(found(code, "throw (?!new )(\\w+)")), "a throw without new");
    hold(listed.containsAll(found(code, "throw new (\\w+)")), "other exceptions");
    hold(found(code, "(?m)^ *(?:private )?static (?!final )(\\w+ \\w+(?: =|;))").isEmpty(), "a static field is not final");
  }

  private static void sizes(String code) {
    hold(found(code, "class (\\w+)").size() <= MOST_CLASSES, "too many classes");
    Matcher m = Pattern.compile("(?ms)^( +)[\\w<>\\[\\] ]+\\([^;{}]*\\)[^;{}]*\\{\n(.*?)^\\1\\}").matcher(code);
    int methods = 0;
    while (m.find()) {
      methods++;
      String head = m.group().substring(0, m.group().indexOf('{'));
      hold(head.split(",").length <= MOST_PARAMETERS + 2, "too many parameters: " + head);
      hold(m.group(2).split("\n").length <= MOST_LINES, "too long: " + head);
      // All calls of a run share one room: what is made, is made in constructors.
      boolean isConstructor = head.trim().matches("(public )?[A-Z]\\w*\\(.*");
      boolean makes = m.group(2).replace("throw new ", "").contains("new ");
      hold(isConstructor ? !m.group(2).contains("throw ") : !makes, "makes an object, or throws in a constructor: " + head);
    }
    hold(methods > 47, "the methods are not found: " + methods);
  }

  public static void main(String[] args) throws Exception {
    String text = Files.readString(Path.of(args[0]));
    String code = text.replaceAll("(?s)/\\*.*?\\*/", "").replaceAll("//[^\n]*", "");
    words(code);
    sizes(code);
    System.out.println(wrong == 0 ? "LanguageTest: all as due" : "LanguageTest: " + wrong + " not as due");
    if (wrong != 0) System.exit(1);
  }
}
