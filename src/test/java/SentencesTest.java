import java.nio.file.Files;
import java.nio.file.Path;
import java.util.ArrayList;
import java.util.HashMap;
import java.util.List;
import java.util.Map;
import java.util.regex.Matcher;
import java.util.regex.Pattern;

/**
 * Runs the tests of the document's sentences, and looks in the document itself, whose path is the first argument,
 * whether each sentence has a test and whether each test quotes just one sentence.
 */
public final class SentencesTest {
  private static final Pattern PROMISE = Pattern.compile("(?ms)^## Promise (\\d+): [\\w ]+\\n(.*?)(?=^## |\\z)");
  private static final Pattern SENTENCE = Pattern.compile("(?<=[.;])\\s+(?=[A-Z]|sight|setPaper)");

  /** What promises say, by their numbers, and at 0 what the document says before them. */
  private static Map<Integer, List<String>> sentences(String doc) {
    Map<Integer, List<String>> all = new HashMap<>();
    Matcher m = PROMISE.matcher(doc);
    while (m.find()) all.put(Integer.parseInt(m.group(1)), promise(m.group(2)));
    List<String> terms = new ArrayList<>();
    terms.addAll(plain(doc.substring(doc.indexOf("## Terms"), doc.indexOf("## Promise 1:"))));
    for (String around : new String[] {doc.substring(0, doc.indexOf("## Terms")), doc.substring(doc.indexOf("## Not promised"))}) {
      for (String s : plain(around)) if (s.contains("512")) terms.add(s);
    }
    all.put(0, terms);
    return all;
  }

  private static List<String> plain(String text) {
    List<String> all = new ArrayList<>();
    for (String paragraph : text.split("\n\\s*\n|</h2>")) {
      String line = paragraph.replaceAll("\\s+", " ").trim();
      if (line.startsWith("#") || line.startsWith("<") || line.isEmpty() || line.endsWith("example:")) continue;
      for (String part : line.startsWith("```") ? new String[] {line} : SENTENCE.split(line)) all.add(part);
    }
    return all;
  }

  private static List<String> promise(String body) {
    List<String> all = new ArrayList<>();
    for (String paragraph : body.replace("\n- ", "\n\n").split("\n\\s*\n")) {
      String line = paragraph.replaceAll("\\s+", " ").trim();
      if (line.startsWith("- ")) line = line.substring(2);
      boolean first = all.isEmpty();
      if (first) line = line.substring(line.indexOf("`: ") + 3);
      if (!line.isEmpty()) all.add(line);
    }
    return all;
  }

  private static int lookInto(Map<Integer, List<String>> doc) {
    int wrong = 0;
    Map<String, Integer> quoted = new HashMap<>();
    for (Checks.Told t : Checks.told) {
      int found = 0;
      for (String s : doc.getOrDefault(t.promise(), List.of())) {
        if (s.contains(t.quote())) { found++; quoted.merge(t.promise() + s, 1, Integer::sum); }
      }
      if (found != 1) { wrong++; System.out.println("quoted " + found + " times in " + t.promise() + ": " + t.quote()); }
    }
    for (int p : doc.keySet()) for (String s : doc.get(p)) {
      if (!quoted.containsKey(p + s)) { wrong++; System.out.println("no test for a sentence of " + p + ": " + s); }
    }
    return wrong;
  }

  public static void main(String[] args) throws Exception {
    SightingSentences.run();
    NightSentences.run();
    PaperSentences.run();
    HomeSentences.run();
    CountSentences.run();
    TermSentences.run();
    for (String failure : Checks.failures()) System.out.println(failure);
    Map<Integer, List<String>> doc = sentences(Files.readString(Path.of(args[0])));
    int wrong = Checks.failures().size() + lookInto(doc);
    if (doc.size() != 49) { wrong++; System.out.println("the document has 48 promises, found " + (doc.size() - 1)); }
    int count = doc.values().stream().mapToInt(List::size).sum();
    System.out.println("SentencesTest: " + Checks.told.size() + " tests of " + count + " sentences, "
        + (wrong == 0 ? "all as due" : wrong + " not as due"));
    if (wrong != 0) System.exit(1);
  }
}
