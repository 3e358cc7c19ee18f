import java.lang.reflect.Field;
import java.lang.reflect.Method;
import java.lang.reflect.Modifier;
import java.nio.file.Files;
import java.nio.file.Path;
import java.util.Map;
import java.util.Set;
import java.util.TreeMap;
import java.util.TreeSet;
import java.util.regex.Matcher;
import java.util.regex.Pattern;

/** What LANGUAGE.md asks of the form, as far as a short test can tell; and that calls make no objects. */
public final class RulesTest {
  private static final String[] FORBIDDEN = {
    "\\bthrow\\b", "\\bthrows\\b", "\\btry\\b", "\\bcatch\\b", "\\bsynchronized\\b", "\\bassert\\b", "\\bimport\\b", "\\bpackage\\b",
    "\\bprotected\\b", "->", "::", "\\bObject\\b", "Exact\\b", "\\bdouble\\b", "\\bfloat\\b", "static\\s*\\{", "\\bThread\\b", "@",
    "\\b(?:hashCode|toString|equals)\\b", "\\binstanceof\\b", "while\\s*\\(\\s*true", "for\\s*\\([^;]*;\\s*;", "\"\\s*\\+", "\\+\\s*\""
  };
  /** All of the library that the class uses; its own classes are named beside it. */
  private static final Set<String> LIBRARY = Set.of("Math.max");
  private static final Pattern METHOD = Pattern.compile("(?m)^( +)(?:[\\w\\[\\]]+ )*(\\w+)\\([^;\\n]*\\) \\{$");

  public static void main(String[] args) throws Exception {
    beside();
    fields();
    nested();
    types();
    words();
    library();
    methods();
    makes();
    depth();
    room();
    Check.end();
  }

  /** What the face is, FaceTest reads from the document; here: that there is nothing beside it. */
  private static void beside() {
    Set<String> face = faceNames();
    for (Method m : EbonyPegs.class.getDeclaredMethods()) {
      if (Modifier.isPublic(m.getModifiers())) continue;
      Check.holds(m + " is private", Modifier.isPrivate(m.getModifiers()));
      Check.holds(m + " bears no name of the face", !face.contains(m.getName()));
    }
  }

  private static Set<String> faceNames() {
    Set<String> names = new TreeSet<>();
    for (Method m : EbonyPegs.class.getDeclaredMethods()) if (Modifier.isPublic(m.getModifiers())) names.add(m.getName());
    return names;
  }

  private static void fields() {
    for (Field f : EbonyPegs.class.getDeclaredFields()) {
      int m = f.getModifiers();
      Check.holds(f + " is private, or a constant of the face", Modifier.isPrivate(m) || Modifier.isPublic(m) && Modifier.isStatic(m));
      Check.holds(f + " is final, if static", !Modifier.isStatic(m) || Modifier.isFinal(m));
    }
  }

  private static void nested() {
    Set<String> face = faceNames();
    Class<?>[] classes = EbonyPegs.class.getDeclaredClasses();
    Check.holds("some twelve classes at most", classes.length <= 12);
    for (Class<?> c : classes) {
      Check.holds(c + " is static", Modifier.isStatic(c.getModifiers()));
      Check.holds(c + " is not public", !Modifier.isPublic(c.getModifiers()) && !Modifier.isProtected(c.getModifiers()));
      int own = 0;
      for (Field f : c.getDeclaredFields()) {
        if (!Modifier.isStatic(f.getModifiers())) own++;
        else Check.holds(f + " is final", Modifier.isFinal(f.getModifiers()));
      }
      Check.holds(c + " has some twenty fields at most", own <= 20);
      for (Method m : c.getDeclaredMethods()) {
        Check.holds(m + " takes seven at most", m.getParameterCount() <= 7);
        Check.holds(m + " bears no name of the face", !face.contains(m.getName()));
      }
    }
    for (Method m : EbonyPegs.class.getDeclaredMethods()) Check.holds(m + " takes seven at most", m.getParameterCount() <= 7);
    // a local, anonymous or synthetic class would be a member of the nest beside these
    Check.due("classes in the file", EbonyPegs.class.getNestMembers().length, 1 + classes.length);
  }

  private static void types() {
    for (Class<?> c : EbonyPegs.class.getNestMembers())
      for (Field f : c.getDeclaredFields()) {
        Class<?> type = f.getType().isArray() ? f.getType().getComponentType() : f.getType();
        boolean own = type.getNestHost() == EbonyPegs.class;
        boolean plain = Set.of(int.class, long.class, char.class, boolean.class, byte.class, short.class, String.class).contains(type);
        Check.holds(f + " is of a type that is told", own || plain);
        if (Modifier.isStatic(f.getModifiers())) Check.holds(f + " is a constant that is told", plain && type != short.class);
      }
    int own = 0;
    for (Field f : EbonyPegs.class.getDeclaredFields()) if (!Modifier.isStatic(f.getModifiers())) own++;
    Check.holds("some twenty fields at most: " + own, own <= 20);
  }

  private static String source() throws Exception {
    return Files.readString(Path.of("src/main/java/EbonyPegs.java"));
  }

  /** The source without comments. */
  private static String bare() throws Exception {
    return source().replaceAll("(?s)/\\*.*?\\*/", "").replaceAll("//[^\n]*", "");
  }

  private static void words() throws Exception {
    String source = source();
    String bare = bare();
    for (String word : FORBIDDEN) {
      Matcher m = Pattern.compile(word).matcher(bare);
      Check.holds("no " + word, !m.find());
    }
    for (char c : source.toCharArray()) if (c > 126) Check.holds("a sign beyond 126: " + (int) c, false);
  }

  private static void library() throws Exception {
    Set<String> own = new TreeSet<>();
    for (Class<?> c : EbonyPegs.class.getDeclaredClasses()) own.add(c.getSimpleName());
    Matcher m = Pattern.compile("\\b([A-Z]\\w*[a-z]\\w*)\\.(\\w+)").matcher(bare());
    while (m.find()) Check.holds("the library has " + m.group(), own.contains(m.group(1)) || LIBRARY.contains(m.group()));
    m = Pattern.compile("\\bnew ([A-Z]\\w*)").matcher(bare());
    while (m.find()) Check.holds("a class of its own: " + m.group(), own.contains(m.group(1)));
  }

  private static void methods() throws Exception {
    String bare = bare();
    Matcher m = METHOD.matcher(bare);
    int found = 0;
    while (m.find()) {
      if (Set.of("if", "for", "while", "switch").contains(m.group(2))) continue;
      found++;
      int end = bare.indexOf("\n" + m.group(1) + "}\n", m.end() - 1);
      long lines = bare.substring(m.start(), end).lines().count();
      Check.holds(m.group(2) + " has some sixty lines at most: " + lines, lines <= 60);
    }
    Check.holds("all methods were looked at: " + found, found > faceNames().size());
  }

  /** Rows and objects are made where an object is made: by fields and by constructors. */
  private static void makes() throws Exception {
    String bare = bare();
    Matcher m = METHOD.matcher(bare);
    Set<String> constructors = Set.of("EbonyPegs", "Shelf", "Outlook");
    while (m.find()) {
      String name = m.group(2);
      if (constructors.contains(name) || Set.of("if", "for", "while", "switch").contains(name)) continue;
      String body = bare.substring(m.end(), bare.indexOf("\n" + m.group(1) + "}\n", m.end() - 1));
      Check.holds(name + " makes no object", !Pattern.compile("\\bnew\\b").matcher(body).find());
    }
  }

  /**
   * Calls go at most eight deep. Methods of one name count as one that calls what any of them
   * calls, so the depth that is found is never too low; one that calls itself counts once.
   */
  private static void depth() throws Exception {
    String bare = bare();
    Map<String, Set<String>> called = new TreeMap<>();
    Matcher m = METHOD.matcher(bare);
    while (m.find()) {
      if (Set.of("if", "for", "while", "switch").contains(m.group(2))) continue;
      String body = bare.substring(m.end(), bare.indexOf("\n" + m.group(1) + "}\n", m.end() - 1));
      Matcher call = Pattern.compile("\\b(\\w+)\\(").matcher(body);
      Set<String> names = called.computeIfAbsent(m.group(2), name -> new TreeSet<>());
      while (call.find()) names.add(call.group(1));
    }
    for (String name : called.keySet()) {
      int deep = depth(called, name, Set.of());
      Check.holds(name + " goes eight calls deep at most: " + deep, deep <= 8);
    }
  }

  private static int depth(Map<String, Set<String>> called, String name, Set<String> open) {
    if (!called.containsKey(name) || open.contains(name)) return 0;
    Set<String> inner = new TreeSet<>(open);
    inner.add(name);
    int deepest = 0;
    for (String next : called.get(name)) deepest = Math.max(deepest, depth(called, next, inner));
    return 1 + deepest;
  }

  /** All calls of a run share one room: the constructor makes the rows, and no call makes more. */
  private static void room() {
    com.sun.management.ThreadMXBean threads =
      (com.sun.management.ThreadMXBean) java.lang.management.ManagementFactory.getThreadMXBean();
    dearCalls(new EbonyPegs());
    long first = threads.getCurrentThreadAllocatedBytes();
    EbonyPegs x = new EbonyPegs();
    long made = threads.getCurrentThreadAllocatedBytes();
    dearCalls(x);
    long called = threads.getCurrentThreadAllocatedBytes();
    Check.holds("an object takes 50000 bytes at most: " + (made - first), made - first <= 50000);
    Check.holds("calls take next to nothing: " + (called - made), called - made <= 10000);
  }

  private static void dearCalls(EbonyPegs x) {
    for (int i = 0; i < 20; i++) {
      x.way(0, -1);
      x.near(5);
      x.likely(5, 0);
      x.flight(i, 40, 0);
      x.safe();
      x.undoes(0);
      x.either(0, 1);
      x.turn(i % 5);
      x.keep();
      x.back();
      x.flyOn();
      x.undo();
      x.drift(20);
      x.write('p');
      x.fault();
      x.lay();
      x.which(5, 5, 5);
      x.may(0, 0);
    }
  }
}
