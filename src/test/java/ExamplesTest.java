import java.lang.reflect.Method;
import java.nio.file.Files;
import java.nio.file.Path;
import java.util.ArrayList;
import java.util.List;
import java.util.regex.Matcher;
import java.util.regex.Pattern;

/**
 * The examples of the document, whose path is the first argument, and that of README.md, whose path is the second one:
 * read from there and called one by one, so that neither can tell what the class does not do.
 */
public final class ExamplesTest {
  private static final Pattern BLOCK = Pattern.compile("(?s)```(\\w+)\\n(.*?)```");
  private static final Pattern DOC_CALL = Pattern.compile("(\\w+)\\(([^)]*)\\) = (-?\\d+)[;.]");
  private static final Pattern README_CALL = Pattern.compile("(?m)(?:int (\\w+) = )?town\\.(\\w+)\\(([^)]*)\\);(?: +// (\\d+))?");
  private static final int DOC_CALLS = 21;

  private static int wrong = 0;

  private static List<String> blocks(String text, String kind) {
    List<String> all = new ArrayList<>();
    Matcher m = BLOCK.matcher(text);
    while (m.find()) if (m.group(1).equals(kind)) all.add(m.group(2));
    return all;
  }

  private static Object value(String told, Class<?> type, List<String> names) {
    if (names.contains(told)) return names.indexOf(told);
    if (type == char.class) return told.charAt(1);
    if (type == boolean.class) return Boolean.valueOf(told);
    return Integer.valueOf(told);
  }

  private static String call(DoorwayCensus town, String name, String arguments, List<String> names) throws Exception {
    for (Method method : DoorwayCensus.class.getMethods()) {
      if (!method.getName().equals(name)) continue;
      String[] told = arguments.isEmpty() ? new String[0] : arguments.split(", ");
      Object[] values = new Object[told.length];
      for (int i = 0; i < told.length; i++) values[i] = value(told[i], method.getParameterTypes()[i], names);
      return String.valueOf(method.invoke(town, values));
    }
    return "no such method";
  }

  private static void due(String want, String got, String call) {
    if (!want.equals(got)) { wrong++; System.out.println("ExamplesTest: " + call + " answered " + got + ", due is " + want); }
  }

  private static void document(String text) throws Exception {
    int calls = 0;
    for (String block : blocks(text, "text")) {
      DoorwayCensus town = new DoorwayCensus();
      Matcher m = DOC_CALL.matcher(block);
      for (; m.find(); calls++) due(m.group(3), call(town, m.group(1), m.group(2), List.of()), m.group());
    }
    due(String.valueOf(DOC_CALLS), String.valueOf(calls), "the number of calls in the document's examples");
  }

  private static void readme(String text) throws Exception {
    List<String> blocks = blocks(text, "java");
    due("1", String.valueOf(blocks.size()), "the number of examples in README.md");
    for (String block : blocks) {
      DoorwayCensus town = new DoorwayCensus();
      List<String> names = new ArrayList<>();
      Matcher m = README_CALL.matcher(block);
      int calls = 0;
      for (; m.find(); calls++) {
        String got = call(town, m.group(2), m.group(3), names);
        // The names stand for the sightings, which are numbered from 0.
        if (m.group(1) != null) { due(String.valueOf(names.size()), got, m.group()); names.add(m.group(1)); }
        if (m.group(4) != null) due(m.group(4), got, m.group());
      }
      due(String.valueOf(block.split("town\\.").length - 1), String.valueOf(calls), "the number of calls read in README.md");
    }
  }

  public static void main(String[] args) throws Exception {
    document(Files.readString(Path.of(args[0])));
    readme(Files.readString(Path.of(args[1])));
    System.out.println(wrong == 0 ? "ExamplesTest: all as due" : "ExamplesTest: " + wrong + " not as due");
    if (wrong != 0) System.exit(1);
  }
}
