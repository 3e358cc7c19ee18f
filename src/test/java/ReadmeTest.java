import java.io.IOException;
import java.lang.reflect.InvocationTargetException;
import java.lang.reflect.Method;
import java.lang.reflect.Modifier;
import java.nio.file.Files;
import java.nio.file.Path;
import java.util.Map;
import java.util.Set;
import java.util.TreeMap;
import java.util.TreeSet;
import java.util.regex.Matcher;
import java.util.regex.Pattern;
import java.util.stream.Collectors;
import java.util.stream.Stream;

/** That README.md is so: its examples answer what they say, its tables name every call, refusal and test. */
public final class ReadmeTest {
  private static final Map<String, Integer> REFUSALS =
    Map.of("BAD", EbonyPegs.BAD, "NO", EbonyPegs.NO, "FULL", EbonyPegs.FULL, "NONE", EbonyPegs.NONE);
  private static final Pattern BLOCK = Pattern.compile("(?s)```java\\n(.*?)```");
  private static final Pattern WRITTEN = Pattern.compile("for \\(char letter : \"([^\"]*)\".*");
  private static final Pattern ASKED = Pattern.compile("horse\\.(\\w+)\\(([-\\d, ]*)\\); +// ([A-Z]+|-?\\d+):.*");
  private static final Pattern ROW = Pattern.compile("(?m)^\\| `(\\w+)\\(([^)]*)\\)` \\|[^|]*\\|([^|]*)\\|$");

  public static void main(String[] args) throws IOException, ReflectiveOperationException {
    String page = Files.readString(Path.of("README.md"));
    examples(page);
    calls(page);
    constants(page);
    tests(page);
    Check.end();
  }

  private static void examples(String page) throws ReflectiveOperationException {
    Set<String> shown = new TreeSet<>(Set.of("write"));
    Matcher block = BLOCK.matcher(page);
    while (block.find()) {
      EbonyPegs horse = null;
      for (String line : block.group(1).split("\n")) {
        Matcher written = WRITTEN.matcher(line);
        Matcher asked = ASKED.matcher(line);
        if (line.equals("EbonyPegs horse = new EbonyPegs();")) horse = new EbonyPegs();
        else if (written.matches()) Check.text(horse, written.group(1));
        else if (asked.matches()) {
          shown.add(asked.group(1));
          Check.due("README: " + line, ask(horse, asked.group(1), asked.group(2)), answer(asked.group(3)));
        } else Check.holds("README: a line that can be tried: " + line, false);
      }
    }
    Check.holds("README: an example for every call: " + shown, shown.equals(face().keySet()));
  }

  private static int ask(EbonyPegs horse, String name, String numbers) throws ReflectiveOperationException {
    Method call = face().get(name);
    String[] parts = numbers.isBlank() ? new String[0] : numbers.split(",");
    Object[] given = new Object[parts.length];
    for (int i = 0; i < parts.length; i++) given[i] = Integer.valueOf(parts[i].strip());
    try {
      return (Integer) call.invoke(horse, given);
    } catch (InvocationTargetException e) {
      throw new IllegalStateException(name + " throws", e);
    }
  }

  private static int answer(String told) {
    return REFUSALS.containsKey(told) ? REFUSALS.get(told) : Integer.parseInt(told);
  }

  private static Map<String, Method> face() {
    Map<String, Method> face = new TreeMap<>();
    for (Method m : EbonyPegs.class.getDeclaredMethods()) if (Modifier.isPublic(m.getModifiers())) face.put(m.getName(), m);
    return face;
  }

  /** Each call with its parameters and with the refusals that the document's promise has. */
  private static void calls(String page) throws IOException {
    Map<String, String> named = new TreeMap<>();
    Matcher row = ROW.matcher(page);
    while (row.find()) named.put(row.group(1) + "(" + row.group(2) + ")", refusals(row.group(3)).toString());
    Map<String, String> due = new TreeMap<>();
    Matcher promise = Pattern.compile("## Promise \\d+: [^\\n]*\\n\\n`int (\\w+)\\(([^`]*)\\)`: ([^\\n]*)")
      .matcher(Files.readString(Path.of("../shared/DOC.md")));
    while (promise.find())
      due.put(promise.group(1) + "(" + promise.group(2).replace("int ", "") + ")", refusals(promise.group(3)).toString());
    Check.due("promises of calls", due.size(), 27);
    Check.holds("README names the calls and refusals " + due + ": " + named, named.equals(due));
  }

  private static Set<String> refusals(String text) {
    Set<String> found = new TreeSet<>();
    Matcher m = Pattern.compile("\\b(?:BAD|NO|FULL|NONE)\\b").matcher(text);
    while (m.find()) found.add(m.group());
    return found;
  }

  private static void constants(String page) {
    REFUSALS.forEach((name, value) -> Check.holds("README: " + name + " is " + value, page.contains("| `" + name + "` | " + value + " |")));
  }

  private static void tests(String page) throws IOException {
    Set<String> named = new TreeSet<>();
    Matcher row = Pattern.compile("(?m)^\\| (\\w+Test) \\|").matcher(page);
    while (row.find()) named.add(row.group(1));
    Set<String> found;
    try (Stream<Path> files = Files.list(Path.of("src/test/java"))) {
      found = files.map(f -> f.getFileName().toString()).filter(f -> f.endsWith("Test.java"))
        .map(f -> f.replace(".java", "")).collect(Collectors.toCollection(TreeSet::new));
    }
    Check.holds("README names the tests " + found + ": " + named, named.equals(found));
    Check.holds("README says how to run them", page.contains("    bash .ci/run\n") && Files.isExecutable(Path.of(".ci/run")));
  }
}
