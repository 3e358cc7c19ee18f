import java.io.IOException;
import java.nio.file.Files;
import java.nio.file.Path;
import java.util.BitSet;
import java.util.List;
import java.util.Map;
import java.util.TreeMap;
import java.util.regex.Matcher;
import java.util.regex.Pattern;
import java.util.stream.Collectors;
import java.util.stream.Stream;

/** That every word of the document's first paragraph, parts and promises stands in a Check.says of some test. */
public final class SentencesTest {
  private static final Pattern SAYS = Pattern.compile("Check\\.says\\(\\s*\"([^\"]*)\",\\s*\"([^\"]*)\"\\)");
  /** What the document leaves free cannot be tested. */
  private static final Map<String, String> FREE = Map.of("use", "what later calls answer is free.");

  public static void main(String[] args) throws IOException {
    Map<String, BitSet> tested = new TreeMap<>();
    Map<String, String> sections = Doc.sections();
    Check.due("sections of the document", sections.size(), 7 + 28);
    FREE.forEach((section, words) -> mark(sections, tested, section, words));
    for (Path file : testFiles()) {
      Matcher m = SAYS.matcher(Files.readString(file));
      while (m.find()) mark(sections, tested, m.group(1), m.group(2));
    }
    sections.forEach((section, text) -> {
      String left = untested(text, tested.getOrDefault(section, new BitSet()));
      Check.holds("a test for what " + section + " says: " + left, left.isEmpty());
    });
    Check.end();
  }

  private static List<Path> testFiles() throws IOException {
    try (Stream<Path> files = Files.list(Path.of("src/test/java"))) {
      return files.filter(f -> f.toString().endsWith("Test.java")).sorted().collect(Collectors.toList());
    }
  }

  private static void mark(Map<String, String> sections, Map<String, BitSet> tested, String section, String words) {
    String text = sections.getOrDefault(section, "");
    int at = text.indexOf(words);
    Check.holds("the document says in " + section + ": " + words, at >= 0);
    if (at >= 0) tested.computeIfAbsent(section, s -> new BitSet()).set(at, at + words.length());
  }

  private static String untested(String text, BitSet tested) {
    StringBuilder left = new StringBuilder();
    for (int i = 0; i < text.length(); i++) left.append(tested.get(i) ? ' ' : text.charAt(i));
    return left.toString().strip();
  }
}
