import java.util.Map;

/** What every test of the project uses: answers compared, texts written, the document's words named. */
final class Check {
  private static int wrong = 0;
  private static Map<String, String> document;
  private static String sentence = "";

  private Check() { }

  /** What follows tests these words of a section of the document (see Doc), which must stand there. */
  static void says(String section, String words) {
    if (document == null) document = Doc.sections();
    sentence = "";
    holds("the document says in " + section + ": " + words, document.getOrDefault(section, "").contains(words));
    sentence = "[" + section + ": " + words + "] ";
  }

  static void due(String call, long got, long want) {
    if (got != want) {
      wrong++;
      System.out.println(sentence + call + " answered " + got + ", due is " + want);
    }
  }

  static void holds(String what, boolean so) {
    if (!so) {
      wrong++;
      System.out.println(sentence + "not so: " + what);
    }
  }

  static int wrongs() {
    return wrong;
  }

  static void end() {
    System.out.println(wrong == 0 ? "all answers are as due" : wrong + " answers are not as due");
    if (wrong != 0) System.exit(1);
  }

  /** THE TEXT becomes this one. */
  static void text(EbonyPegs x, String text) {
    x.wipe();
    for (int i = 0; i < text.length(); i++) due("write in " + text, x.write(text.charAt(i)), i + 1);
  }

  /** A new object with this text laid. */
  static EbonyPegs laid(String text) {
    EbonyPegs x = new EbonyPegs();
    text(x, text);
    int pegs = 0;
    for (int i = 0; i < text.length(); i++) if (text.charAt(i) == 'p') pegs++;
    due("lay of " + text, x.lay(), pegs);
    return x;
  }

  /** now(0) to now(8), one behind the other. */
  static void stands(String when, EbonyPegs x, int... want) {
    for (int i = 0; i < want.length; i++) due(when + ": now(" + i + ")", x.now(i), want[i]);
  }

  /** count(0) to count(5), one behind the other. */
  static void counts(String when, EbonyPegs x, int... want) {
    for (int i = 0; i < want.length; i++) due(when + ": count(" + i + ")", x.count(i), want[i]);
  }
}
