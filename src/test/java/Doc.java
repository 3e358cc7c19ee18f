import java.io.IOException;
import java.io.UncheckedIOException;
import java.nio.file.Files;
import java.nio.file.Path;
import java.util.LinkedHashMap;
import java.util.Map;
import java.util.regex.Matcher;
import java.util.regex.Pattern;

/**
 * The document, cut into what tests can name: "what" (it is), "use", the parts "1" to "4",
 * "refusals", and each promise by its call ("new" is the constructor).
 */
final class Doc {
  private static final Path FILE = Path.of("../shared/DOC.md");
  private static final Pattern PROMISE =
    Pattern.compile("## Promise \\d+: ([A-Za-z ]+?) `[^`]*`: (.*?)(?= ## )");

  private Doc() { }

  static Map<String, String> sections() {
    String all = plain();
    Map<String, String> sections = new LinkedHashMap<>();
    sections.put("what", between(all, "A peg to go up", "======== 1 "));
    sections.put("use", between(all, "An object is used", "## The public face"));
    sections.put("1", between(all, "======== 1 ", "An object is used") + " " + between(all, "## Terms ", "======== 2 "));
    sections.put("2", between(all, "======== 2 ", "======== 3 "));
    sections.put("3", between(all, "======== 3 ", "======== 4 "));
    sections.put("4", between(all, "======== 4 ", "BAD: a number"));
    sections.put("refusals", between(all, "BAD: a number", "Ahead of the calls"));
    Matcher m = PROMISE.matcher(all);
    while (m.find()) sections.put(m.group(1).equals("A new object") ? "new" : m.group(1), m.group(2).strip());
    return sections;
  }

  /** One line, without the marks of code blocks. */
  private static String plain() {
    try {
      return Files.readString(FILE).replaceAll("```\\w*", " ").replaceAll("\\s+", " ");
    } catch (IOException e) {
      throw new UncheckedIOException(e);
    }
  }

  /** From the first words on, marks of parts and headings left out, up to the second ones. */
  private static String between(String all, String from, String to) {
    int start = all.indexOf(from);
    int end = start < 0 ? -1 : all.indexOf(to, start);
    if (end < 0) throw new IllegalStateException("the document has no part from " + from + " to " + to);
    return all.substring(start, end).replaceAll("======== \\d |## \\w+ ", "").strip();
  }
}
