import java.io.IOException;
import java.lang.reflect.Constructor;
import java.lang.reflect.Field;
import java.lang.reflect.Method;
import java.lang.reflect.Modifier;
import java.nio.file.Files;
import java.nio.file.Path;
import java.util.ArrayList;
import java.util.List;
import java.util.TreeMap;
import java.util.TreeSet;
import java.util.regex.Matcher;
import java.util.regex.Pattern;

/** "The public face" as the document writes it, and what it says that stands ahead of the calls. */
public final class FaceTest {
  private static final Pattern CALL = Pattern.compile("int (\\w+)\\(([^)]*)\\)");
  private static final Pattern AHEAD = Pattern.compile("Ahead of the calls ([^\\n]*?) the interface says: (---- [^\\n]*?)\\.\\n");

  public static void main(String[] args) throws IOException, IllegalAccessException {
    String document = Files.readString(Path.of("../shared/DOC.md"));
    String face = document.substring(document.indexOf("```java"), document.indexOf("## Terms"));
    constants(face);
    calls(face);
    onePromiseEach(face, document);
    headings(document);
    Check.end();
  }

  private static void constants(String face) throws IllegalAccessException {
    TreeMap<String, Integer> want = new TreeMap<>();
    Matcher m = Pattern.compile("([A-Z]+) = (-?\\d+)").matcher(face);
    while (m.find()) want.put(m.group(1), Integer.valueOf(m.group(2)));
    TreeMap<String, Integer> got = new TreeMap<>();
    for (Field f : EbonyPegs.class.getFields()) {
      Check.holds(f + " is a constant of int", f.getType() == int.class && Modifier.isStatic(f.getModifiers()) && Modifier.isFinal(f.getModifiers()));
      got.put(f.getName(), f.getInt(null));
    }
    Check.due("constants in the document", want.size(), 4);
    Check.holds("the constants are " + want + ": " + got, got.equals(want));
  }

  private static void calls(String face) {
    Class<?> type = EbonyPegs.class;
    Check.holds("public and final", face.contains("public final class EbonyPegs {") && Modifier.isPublic(type.getModifiers()) && Modifier.isFinal(type.getModifiers()));
    Check.holds("no package, no class above, no interface", type.getPackageName().isEmpty() && type.getSuperclass() == Object.class && type.getInterfaces().length == 0);
    Constructor<?>[] constructors = type.getDeclaredConstructors();
    Check.holds("public EbonyPegs() alone", constructors.length == 1 && Modifier.isPublic(constructors[0].getModifiers()) && constructors[0].getParameterCount() == 0);
    TreeSet<String> got = new TreeSet<>();
    for (Method m : type.getDeclaredMethods()) {
      if (!Modifier.isPublic(m.getModifiers())) continue;
      List<String> types = new ArrayList<>();
      for (Class<?> t : m.getParameterTypes()) types.add(t.getName());
      got.add(m.getReturnType().getName() + " " + m.getName() + types);
      Check.due("what " + m + " says it throws", m.getExceptionTypes().length, 0);
    }
    TreeSet<String> want = new TreeSet<>();
    Matcher m = CALL.matcher(face);
    while (m.find()) {
      List<String> types = new ArrayList<>();
      for (String parameter : m.group(2).split(",")) if (!parameter.isBlank()) types.add(parameter.strip().split(" ")[0]);
      want.add("int " + m.group(1) + types);
    }
    Check.due("calls in the document", want.size(), 27);
    Check.holds("the calls are " + want + ": " + got, got.equals(want));
  }

  /** The names of parameters, too, are as the document and its promises have them. */
  private static void onePromiseEach(String face, String document) throws IOException {
    List<String> told = new ArrayList<>();
    Matcher m = CALL.matcher(face);
    while (m.find()) told.add(m.group());
    List<String> promised = new ArrayList<>();
    m = Pattern.compile("## Promise \\d+: [^\\n]*\\n\\n`(int [^`]*)`").matcher(document);
    while (m.find()) promised.add(m.group(1));
    List<String> written = new ArrayList<>();
    m = Pattern.compile("public (" + CALL.pattern() + ") \\{").matcher(source());
    while (m.find()) written.add(m.group(1));
    Check.holds("a promise for each call: " + promised, promised.equals(told));
    Check.holds("the calls stand in the document's order: " + written, written.equals(told));
  }

  private static void headings(String document) throws IOException {
    List<String> want = new ArrayList<>();
    Matcher m = AHEAD.matcher(document);
    while (m.find()) {
      want.add(m.group(2));
      Matcher call = Pattern.compile("`(\\w+)`").matcher(m.group(1));
      while (call.find()) want.add(call.group(1));
    }
    Check.due("headings and calls in the document", want.size(), 6 + 27);
    List<String> got = new ArrayList<>();
    m = Pattern.compile("// (---- .*)|public int (\\w+)\\(").matcher(source());
    while (m.find() && got.size() < want.size()) got.add(m.group(1) != null ? m.group(1) : m.group(2));
    Check.holds("the headings stand ahead of their calls: " + got, got.equals(want));
  }

  private static String source() throws IOException {
    return Files.readString(Path.of("src/main/java/EbonyPegs.java"));
  }
}
