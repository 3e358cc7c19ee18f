import java.lang.reflect.Field;
import java.lang.reflect.Method;
import java.lang.reflect.Modifier;
import java.nio.file.Files;
import java.nio.file.Path;
import java.util.Set;
import java.util.TreeSet;
import java.util.regex.Matcher;
import java.util.regex.Pattern;

/** What LANGUAGE.md asks of the form, as far as a short test can tell; and that calls make no objects. */
public final class RulesTest {
  private static final String[] FACE = {
    "write(I)", "wipe()", "fault()", "lay()", "peg(II)", "wind(I)", "roof(II)", "turn(I)", "flyOn()", "setDown()", "undo()",
    "now(I)", "safe()", "way(II)", "near(I)", "undoes(I)", "either(II)", "drift(I)", "seen(III)", "forget()", "may(II)",
    "which(III)", "likely(II)", "flight(III)", "keep()", "back()", "count(I)"
  };
  private static final String[] FORBIDDEN = {
    "\\bthrow\\b", "\\bthrows\\b", "\\btry\\b", "\\bcatch\\b", "\\bsynchronized\\b", "\\bassert\\b", "\\bimport\\b", "\\bpackage\\b",
    "\\bprotected\\b", "->", "::", "\\bObject\\b", "Exact\\b", "\\bdouble\\b", "\\bfloat\\b", "static\\s*\\{", "\\bThread\\b", "@",
    "\\b(?:hashCode|toString|equals)\\b", "\\binstanceof\\b", "while\\s*\\(\\s*true", "for\\s*\\([^;]*;\\s*;", "\"\\s*\\+", "\\+\\s*\""
  };
  /** All of the library that the class uses; its own classes are named beside it. */
  private static final Set<String> LIBRARY = Set.of("Math.max");
  private static final Pattern METHOD = Pattern.compile("(?m)^( +)(?:[\\w\\[\\]]+ )*(\\w+)\\([^;\\n]*\\) \\{$");

  public static void main(String[] args) throws Exception {
    face();
    fields();
    nested();
    types();
    words();
    library();
    methods();
    makes();
    room();
    Check.end();
  }

  private static void face() {
    Set<String> want = new TreeSet<>(Set.of(FACE));
    Set<String> got = new TreeSet<>();
    Set<String> hidden = new TreeSet<>();
    for (Method m : EbonyPegs.class.getDeclaredMethods()) {
      if (Modifier.isPublic(m.getModifiers())) {
        got.add(m.getName() + "(" + "I".repeat(m.getParameterCount()) + ")");
        Check.holds(m + " answers an int", m.getReturnType() == int.class && !Modifier.isStatic(m.getModifiers()));
      } else {
        Check.holds(m + " is private", Modifier.isPrivate(m.getModifiers()));
        hidden.add(m.getName());
      }
    }
    Check.holds("the face is the document's: " + got, got.equals(want));
    for (String method : FACE) Check.holds("no private " + method, !hidden.contains(method.substring(0, method.indexOf('('))));
    Check.due("constructors", EbonyPegs.class.getDeclaredConstructors().length, 1);
    Check.holds("public and final", Modifier.isPublic(EbonyPegs.class.getModifiers()) && Modifier.isFinal(EbonyPegs.class.getModifiers()));
  }

  private static void fields() {
    Set<String> constants = new TreeSet<>();
    for (Field f : EbonyPegs.class.getDeclaredFields()) {
      int m = f.getModifiers();
      if (Modifier.isPublic(m)) constants.add(f.getName());
      else Check.holds(f + " is private", Modifier.isPrivate(m));
      Check.holds(f + " is final, if static", !Modifier.isStatic(m) || Modifier.isFinal(m));
    }
    Check.holds("the constants are the document's: " + constants, constants.equals(Set.of("BAD", "NO", "FULL", "NONE")));
  }

  private static void nested() {
    Class<?>[] classes = EbonyPegs.class.getDeclaredClasses();
    Check.holds("some twelve classes at most", classes.length <= 12);
    for (Class<?> c : classes) {
      Check.holds(c + " is static", Modifier.isStatic(c.getModifiers()));
      Check.holds(c + " is not public", !Modifier.isPublic(c.getModifiers()) && !Modifier.isProtected(c.getModifiers()));
      int own = 0;
      for (Field f : c.getDeclaredFields()) {
        if (!Modifier.isStatic(f.getModifiers())) own++;
        else Check.holds(f + " is final", Modifier.isFinal(f.getModifiers()));
      }
      Check.holds(c + " has some twenty fields at most", own <= 20);
      for (Method m : c.getDeclaredMethods()) {
        Check.holds(m + " takes seven at most", m.getParameterCount() <= 7);
        Check.holds(m + " bears no name of the face", !isOfTheFace(m.getName()));
      }
    }
    for (Method m : EbonyPegs.class.getDeclaredMethods()) Check.holds(m + " takes seven at most", m.getParameterCount() <= 7);
    // a local, anonymous or synthetic class would be a member of the nest beside these
    Check.due("classes in the file", EbonyPegs.class.getNestMembers().length, 1 + classes.length);
  }

  private static boolean isOfTheFace(String name) {
    for (String method : FACE) if (method.substring(0, method.indexOf('(')).equals(name)) return true;
    return false;
  }

  private static void types() {
    for (Class<?> c : EbonyPegs.class.getNestMembers())
      for (Field f : c.getDeclaredFields()) {
        Class<?> type = f.getType().isArray() ? f.getType().getComponentType() : f.getType();
        boolean own = type.getNestHost() == EbonyPegs.class;
        boolean plain = Set.of(int.class, long.class, char.class, boolean.class, byte.class, short.class, String.class).contains(type);
        Check.holds(f + " is of a type that is told", own || plain);
        if (Modifier.isStatic(f.getModifiers())) Check.holds(f + " is a constant that is told", plain && type != short.class);
      }
    int own = 0;
    for (Field f : EbonyPegs.class.getDeclaredFields()) if (!Modifier.isStatic(f.getModifiers())) own++;
    Check.holds("some twenty fields at most: " + own, own <= 20);
  }

  private static String source() throws Exception {
    return Files.readString(Path.of("src/main/java/EbonyPegs.java"));
  }

  /** The source without comments. */
  private static String bare() throws Exception {
    return source().replaceAll("(?s)/\\*.*?\\*/", "").replaceAll("//[^\n]*", "");
  }

  private static void words() throws Exception {
    String source = source();
    String bare = bare();
    for (String word : FORBIDDEN) {
      Matcher m = Pattern.compile(word).matcher(bare);
      Check.holds("no " + word, !m.find());
    }
    for (char c : source.toCharArray()) if (c > 126) Check.holds("a sign beyond 126: " + (int) c, false);
  }

  private static void library() throws Exception {
    Set<String> own = new TreeSet<>();
    for (Class<?> c : EbonyPegs.class.getDeclaredClasses()) own.add(c.getSimpleName());
    Matcher m = Pattern.compile("\\b([A-Z]\\w*[a-z]\\w*)\\.(\\w+)").matcher(bare());
    while (m.find()) Check.holds("the library has " + m.group(), own.contains(m.group(1)) || LIBRARY.contains(m.group()));
    m = Pattern.compile("\\bnew ([A-Z]\\w*)").matcher(bare());
    while (m.find()) Check.holds("a class of its own: " + m.group(), own.contains(m.group(1)));
  }

  private static void methods() throws Exception {
    String bare = bare();
    Matcher m = METHOD.matcher(bare);
    int found = 0;
    while (m.find()) {
      if (Set.of("if", "for", "while", "switch").contains(m.group(2))) continue;
      found++;
      int end = bare.indexOf("\n" + m.group(1) + "}\n", m.end() - 1);
      long lines = bare.substring(m.start(), end).lines().count();
      Check.holds(m.group(2) + " has some sixty lines at most: " + lines, lines <= 60);
    }
    Check.holds("all methods were looked at: " + found, found > FACE.length);
  }

  /** Rows and objects are made where an object is made: by fields and by constructors. */
  private static void makes() throws Exception {
    String bare = bare();
    Matcher m = METHOD.matcher(bare);
    Set<String> constructors = Set.of("EbonyPegs", "Shelf", "Outlook");
    while (m.find()) {
      String name = m.group(2);
      if (constructors.contains(name) || Set.of("if", "for", "while", "switch").contains(name)) continue;
      String body = bare.substring(m.end(), bare.indexOf("\n" + m.group(1) + "}\n", m.end() - 1));
      Check.holds(name + " makes no object", !Pattern.compile("\\bnew\\b").matcher(body).find());
    }
  }

  /** All calls of a run share one room: the constructor makes the rows, and no call makes more. */
  private static void room() {
    com.sun.management.ThreadMXBean threads =
      (com.sun.management.ThreadMXBean) java.lang.management.ManagementFactory.getThreadMXBean();
    dearCalls(new EbonyPegs());
    long first = threads.getCurrentThreadAllocatedBytes();
    EbonyPegs x = new EbonyPegs();
    long made = threads.getCurrentThreadAllocatedBytes();
    dearCalls(x);
    long called = threads.getCurrentThreadAllocatedBytes();
    Check.holds("an object takes 50000 bytes at most: " + (made - first), made - first <= 50000);
    Check.holds("calls take next to nothing: " + (called - made), called - made <= 10000);
  }

  private static void dearCalls(EbonyPegs x) {
    for (int i = 0; i < 20; i++) {
      x.way(0, -1);
      x.near(5);
      x.likely(5, 0);
      x.flight(i, 40, 0);
      x.safe();
      x.undoes(0);
      x.either(0, 1);
      x.turn(i % 5);
      x.keep();
      x.back();
      x.flyOn();
      x.undo();
      x.drift(20);
      x.write('p');
      x.fault();
      x.lay();
      x.which(5, 5, 5);
      x.may(0, 0);
    }
  }
}
