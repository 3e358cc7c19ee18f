import java.util.function.Supplier;

/** Part 1 and promises 1 to 8, sentence by sentence: what a text may be, and what it may not. */
public final class TextBoundsTest {
  private static final int BAD = EbonyPegs.BAD, NO = EbonyPegs.NO, FULL = EbonyPegs.FULL, NONE = EbonyPegs.NONE;
  private static final String FIRST =
    "p0,7,0;p0,3,1;p1,4,0;p2,6,1;p3,9,3;w1,1;w3,2;w5,3;w7,0;r5,3;r7,7;r2,6;b5,5,3,0;t1;";
  /** One right item of each letter, every number such that it can be one less and one more. */
  private static final String[] ITEMS = {"p1,5,2;", "w4,2;", "r3,6;", "b4,7,5,2;", "t1;"};

  public static void main(String[] args) {
    atFirst();
    mostLetters();
    writeTakes();
    writeRefuses();
    wipe();
    itemLetters();
    figures();
    parted();
    ended();
    kindBounds();
    liftBounds();
    quarterBounds();
    mostPegs();
    windHeightBounds();
    windCourseBounds();
    windWithout();
    windLast();
    roofBounds();
    mostRoofs();
    roofsAtOnePlace();
    beginBounds();
    beginWithout();
    beginLast();
    riderBounds();
    riderWithout();
    riderLast();
    firstFault();
    faultNone();
    aPegAtLeast();
    layClears();
    layRefused();
    pegTold();
    pegLiftNow();
    pegTurnNow();
    pegRefused();
    windOf();
    windRefused();
    roofOf();
    roofRefused();
    Check.end();
  }

  private static int faultOf(String text) {
    EbonyPegs x = new EbonyPegs();
    Check.text(x, text);
    int fault = x.fault();
    Check.due("lay() of " + text + " against its fault", x.lay() >= 0 ? 1 : 0, fault == NONE && text.contains("p") ? 1 : 0);
    return fault;
  }

  /** The item is so, or not, at the beginning of a text, in the middle and at its end. */
  private static void item(String item, boolean so) {
    Check.due("fault() of " + item, faultOf(item), so ? NONE : 0);
    Check.due("fault() of t2;" + item, faultOf("t2;" + item), so ? NONE : 3);
    Check.due("fault() of p0,5,0;" + item + "w1,1;", faultOf("p0,5,0;" + item + "w1,1;"), so ? NONE : 7);
  }

  /** Of all numbers of one figure and of two, those from low to high alone stand for N in the item. */
  private static void bounds(String item, int low, int high) {
    for (int n = 0; n <= 99; n++) {
      if (n < 10) item(item.replace("N", Integer.toString(n)), n >= low && n <= high);
      String two = n < 10 ? "0" + n : Integer.toString(n);
      item(item.replace("N", two), n >= low && n <= high);
    }
  }

  // ---- the new object

  private static void atFirst() {
    Check.says("1", "at first p0,7,0;p0,3,1;p1,4,0;p2,6,1;p3,9,3;w1,1;w3,2;w5,3;w7,0;r5,3;r7,7;r2,6;b5,5,3,0;t1;).");
    EbonyPegs laid = Check.laid(FIRST);
    laid.wipe();
    Check.holds("a new object is as if that text were laid", Whole.of(new EbonyPegs()).equals(Whole.of(laid)));
    Check.says("new", "As told.");
    EbonyPegs x = new EbonyPegs();
    Check.stands("new", x, 5, 5, 3, 0, 0, 1, 0, 0, NONE);
    Check.counts("new", x, 5, 3, 0, 0, 0, 0);
    // one object tells nothing of another
    x.turn(0);
    x.keep();
    x.seen(0, 0, 0);
    x.write('p');
    Check.counts("new beside one that was used", new EbonyPegs(), 5, 3, 0, 0, 0, 0);
    Check.stands("new beside one that was used", new EbonyPegs(), 5, 5, 3, 0, 0, 1, 0, 0, NONE);
  }

  // ---- letters

  /** 200 letters without a fault, of which the last item alone tells that two ride. */
  private static String longText() {
    StringBuilder text = new StringBuilder("p0,5,0;w1,1;w2,1;");
    while (text.length() < 197) text.append("t1;");
    return text.append("t2;").toString();
  }

  private static void mostLetters() {
    Check.says("1", "A TEXT is letters (200 at most),");
    String text = longText();
    Check.due("letters of the longest text", text.length(), 200);
    EbonyPegs x = new EbonyPegs();
    Check.text(x, text.substring(0, 199));
    Check.due("count(5) of 199", x.count(5), 199);
    Check.due("fault() of 199", x.fault(), 197);
    Check.due("write(;) as the 200th", x.write(';'), 200);
    Check.due("fault() of 200", x.fault(), NONE);
    Check.due("lay() of 200", x.lay(), 1);
    Check.due("now(5), told by the last item", x.now(5), 2);
  }

  private static EbonyPegs written(String text) {
    EbonyPegs x = new EbonyPegs();
    Check.text(x, text);
    return x;
  }

  private static void writeTakes() {
    Check.says("write", "A letter (32 to 126, as in ASCII) comes behind THE TEXT: how long it is.");
    EbonyPegs x = new EbonyPegs();
    for (int letter = 32; letter <= 126; letter++) Check.due("write(" + letter + ")", x.write(letter), letter - 31);
    for (int i = 96; i <= 200; i++) Check.due("write as letter " + i, x.write(126), i);
    // it comes behind: only in this row is it an item
    x = written("t1");
    Check.due("fault() ahead of write(;)", x.fault(), 0);
    x.write(';');
    Check.due("fault() behind write(;)", x.fault(), NONE);
  }

  private static void writeRefuses() {
    Check.says("write", "BAD; FULL.");
    int[] bad = {31, 127, 30, 128, 0, -1, -32, 255, 256 + 112, 65536 + 112, Integer.MIN_VALUE, Integer.MAX_VALUE};
    Supplier<EbonyPegs> empty = EbonyPegs::new;
    Supplier<EbonyPegs> nearlyFull = () -> written(longText().substring(0, 199));
    Supplier<EbonyPegs> full = () -> written(longText());
    for (int letter : bad) {
      Whole.refused("write(" + letter + ")", empty, x -> x.write(letter), BAD);
      Whole.refused("write(" + letter + ") to 199 letters", nearlyFull, x -> x.write(letter), BAD);
      Whole.refused("write(" + letter + ") to 200 letters", full, x -> x.write(letter), BAD);
    }
    for (int letter : new int[] {32, ';', 'p', 126}) Whole.refused("write(" + letter + ") to 200 letters", full, x -> x.write(letter), FULL);
  }

  private static void wipe() {
    Check.says("wipe", "THE TEXT is empty: how long it was.");
    EbonyPegs x = new EbonyPegs();
    Check.due("wipe() of the empty text", x.wipe(), 0);
    x.write('p');
    Check.due("wipe() of one letter", x.wipe(), 1);
    Check.text(x, longText());
    Check.due("wipe() of a full text", x.wipe(), 200);
    Check.due("wipe() again", x.wipe(), 0);
    Check.due("count(5)", x.count(5), 0);
    Check.due("fault() of nothing", x.fault(), NONE);
    Check.due("lay() of nothing", x.lay(), NO);
    Check.due("write(p) behind a full text that was wiped", x.write('p'), 1);
    Check.due("fault(): nothing of the old text is left", x.fault(), 0);
    Check.counts("wiped, all else stands", x, 5, 3, 0, 0, 0, 1);
  }

  // ---- items

  private static void itemLetters() {
    Check.says("1", "ITEMS one behind the other, each a letter,");
    String[] numbers = {"", "1", "1,1", "1,1,1", "1,1,1,1", "1,1,1,1,1"};
    for (char letter = 32; letter <= 126; letter++)
      for (int many = 0; many < numbers.length; many++) {
        boolean so = letter == 't' && many == 1 || (letter == 'w' || letter == 'r') && many == 2
          || letter == 'p' && many == 3 || letter == 'b' && many == 4;
        item(letter + numbers[many] + ";", so);
      }
    item("1;", false);
    item(",", false);
    Check.due("fault() of all items in a row", faultOf(String.join("", ITEMS)), NONE);
    Check.due("fault() of a blank between items", faultOf("t1; t2;"), 3);
    Check.due("fault() of a ; between items", faultOf("t1;;t2;"), 3);
  }

  private static void figures() {
    Check.says("1", "then numbers (one or two figures)");
    for (String item : ITEMS)
      for (int at = 0; at < item.length(); at++) {
        if (!Character.isDigit(item.charAt(at))) continue;
        String ahead = item.substring(0, at);
        String behind = item.substring(at + 1);
        String figure = item.substring(at, at + 1);
        item(ahead + behind, false);
        item(ahead + figure + behind, true);
        item(ahead + "0" + figure + behind, true);
        item(ahead + "00" + figure + behind, false);
        item(ahead + figure + "00" + behind, false);
        for (String sign : new String[] {"/", ":", "-", "+", " ", "."}) {
          item(ahead + sign + behind, false);
          item(ahead + sign + figure + behind, false);
          item(ahead + figure + sign + behind, false);
        }
      }
  }

  private static void parted() {
    Check.says("1", "parted by , and a ; behind the last one:");
    for (String item : ITEMS)
      for (int at = 0; at < item.length(); at++) {
        char sign = item.charAt(at);
        if (sign != ',' && sign != ';') continue;
        String ahead = item.substring(0, at);
        String behind = item.substring(at + 1);
        item(ahead + behind, false);
        for (char other = 32; other <= 126; other++) item(ahead + other + behind, other == sign);
        if (sign == ',') item(ahead + ",," + behind, false);
      }
  }

  private static void ended() {
    Check.says("1", "and a ; behind the last one:");
    for (String item : ITEMS)
      for (int length = 1; length < item.length(); length++) {
        String cut = item.substring(0, length);
        Check.due("fault() of " + cut, faultOf(cut), 0);
        Check.due("fault() of t1;" + cut, faultOf("t1;" + cut), 3);
      }
    for (String item : ITEMS) Check.due("fault() of " + item + ";", faultOf(item + ";"), item.length());
  }

  // ---- pegs

  private static void kindBounds() {
    Check.says("1", "pK,U,T a PEG of KIND K (0 PLAIN, 1 DOUBLING, 2 TURNED, 3 HEAVY),");
    bounds("pN,5,2;", 0, 3);
    for (int kind = 0; kind <= 3; kind++) Check.due("peg(0, 0) of " + kind, Check.laid("p" + kind + ",5,2;").peg(0, 0), kind);
    // each kind by what it does: doubled, the other way, less with two
    String[] texts = {"pK,7,1;b5,5,2,0;", "pK,7,1;b5,5,2,2;", "pK,7,1;t2;b5,5,2,0;"};
    int[][] lifts = {{2, 2, 2, 2}, {2, 2, -2, 2}, {2, 2, 2, 0}};
    for (int i = 0; i < texts.length; i++)
      for (int kind = 0; kind <= 3; kind++) {
        EbonyPegs x = Check.laid(texts[i].replace("K", Integer.toString(kind)));
        Check.due("peg(0, 3) of kind " + kind + " in " + texts[i], x.peg(0, 3), 20 + lifts[i][kind]);
      }
    for (int kind = 0; kind <= 3; kind++) {
      EbonyPegs x = Check.laid("p" + kind + ",7,0;");
      x.turn(0);
      Check.due("peg(0, 3) of kind " + kind + " behind itself", x.peg(0, 3), kind == 1 ? 24 : 22);
    }
  }

  private static void liftBounds() {
    Check.says("1", "that lifts by U less 5 (U 0 to 9),");
    bounds("p1,N,2;", 0, 9);
    for (int u = 0; u <= 9; u++) {
      EbonyPegs x = Check.laid("p0," + u + ",2;b5,5,5,0;");
      Check.due("peg(0, 1) of " + u, x.peg(0, 1), u);
      Check.due("peg(0, 3) of " + u, x.peg(0, 3), u + 15);
      Check.due("turn(0) from 5 of " + u, x.turn(0), u);
    }
  }

  private static void quarterBounds() {
    Check.says("1", "turns by T (0 to 3) quarters to the right;");
    bounds("p1,5,N;", 0, 3);
    for (int t = 0; t <= 3; t++) {
      EbonyPegs x = Check.laid("p0,5," + t + ";");
      Check.due("peg(0, 2) of " + t, x.peg(0, 2), t);
      x.turn(0);
      Check.due("now(3) from north by " + t, x.now(3), t);
    }
  }

  private static void mostPegs() {
    Check.says("1", "7 at most, 0, 1, ..");
    StringBuilder text = new StringBuilder();
    for (int pegs = 1; pegs <= 7; pegs++) {
      text.append("p").append(pegs % 4).append(",").append(pegs).append(",").append((pegs + 1) % 4).append(";");
      Check.due("fault() of " + pegs, faultOf(text.toString()), NONE);
      EbonyPegs x = Check.laid(text.toString());
      Check.due("count(0)", x.count(0), pegs);
      for (int p = 0; p < pegs; p++) Check.due("peg(" + p + ", 1)", x.peg(p, 1), p + 1);
      Check.due("peg(" + pegs + ", 1)", x.peg(pegs, 1), BAD);
    }
    Check.due("fault() of eight", faultOf(text + "p0,5,0;"), 49);
    Check.due("fault() of eight, an item between", faultOf(text + "r1,1;p0,5,0;"), 54);
    Check.due("fault() of nine", faultOf(text + "p0,5,0;p0,5,0;"), 49);
    Check.due("fault() of six and five other items", faultOf(text.substring(7) + String.join("", "t1;", "w1,1;", "r1,1;", "t1;", "b1,1,1,1;")), NONE);
  }

  // ---- winds

  private static void windHeightBounds() {
    Check.says("1", "wH,D at HEIGHT H (1 to 9)");
    bounds("wN,2;", 1, 9);
    for (int h = 1; h <= 9; h++) {
      EbonyPegs x = Check.laid("p0,5,0;w" + h + ",2;");
      for (int at = 1; at <= 9; at++) Check.due("wind(" + at + ") of w" + h, x.wind(at), at == h ? 2 : 4);
    }
  }

  private static void windCourseBounds() {
    Check.says("1", "the WIND blows to D (0 north, 1 east, 2 south, 3 west, 4 nowhere;");
    bounds("w4,N;", 0, 4);
    int[] spots = {45, 56, 65, 54, 55};
    for (int d = 0; d <= 4; d++) {
      // it goes one north to 5, 5 by its course, and the rest is the wind
      EbonyPegs x = Check.laid("p0,5,0;w3," + d + ";b5,6,3,0;");
      Check.due("wind(3) of " + d, x.wind(3), d);
      Check.due("flyOn() by a wind to " + d, x.flyOn(), spots[d]);
    }
  }

  private static void windWithout() {
    Check.says("1", "4 without;");
    EbonyPegs x = Check.laid("p0,5,0;w1,1;w1,2;w9,3;");
    for (int h = 2; h <= 8; h++) Check.due("wind(" + h + ") without", x.wind(h), 4);
    x = Check.laid("p0,5,0;");
    for (int h = 1; h <= 9; h++) Check.due("wind(" + h + ") of no w", x.wind(h), 4);
    Check.due("flyOn() of no w", x.flyOn(), 45);
  }

  private static void windLast() {
    Check.says("1", "the last one of each)");
    EbonyPegs x = Check.laid("w3,0;p0,5,0;w4,1;w3,4;w4,3;w3,2;");
    Check.due("wind(3)", x.wind(3), 2);
    Check.due("wind(4)", x.wind(4), 3);
    Check.due("wind(3), taken back", Check.laid("p0,5,0;w3,1;w3,4;").wind(3), 4);
  }

  // ---- roofs

  private static void roofBounds() {
    Check.says("1", "rX,Y a ROOF at X, Y (0 to 9 each);");
    bounds("rN,6;", 0, 9);
    bounds("r3,N;", 0, 9);
    for (int n = 0; n <= 9; n++) {
      EbonyPegs x = Check.laid("p0,5,0;r" + n + "," + (9 - n) + ";");
      Check.due("roof(0, 0) of " + n, x.roof(0, 0), n);
      Check.due("roof(0, 1) of " + n, x.roof(0, 1), 9 - n);
    }
  }

  private static void mostRoofs() {
    Check.says("1", "6 at most, 0, 1, ..");
    Check.due("count(1) of none", Check.laid("p0,5,0;").count(1), 0);
    StringBuilder text = new StringBuilder("p0,5,0;");
    for (int roofs = 1; roofs <= 6; roofs++) {
      text.append("r").append(roofs).append(",").append(9 - roofs).append(";");
      Check.due("fault() of " + roofs, faultOf(text.toString()), NONE);
      EbonyPegs x = Check.laid(text.toString());
      Check.due("count(1)", x.count(1), roofs);
      for (int r = 0; r < roofs; r++) Check.due("roof(" + r + ", 0)", x.roof(r, 0), r + 1);
      Check.due("roof(" + roofs + ", 0)", x.roof(roofs, 0), BAD);
    }
    Check.due("fault() of seven", faultOf(text + "r1,1;"), 37);
    Check.due("fault() of a seventh at the place of another", faultOf(text + "r1,8;"), 37);
    Check.due("fault() of seven, an item between", faultOf(text + "p0,5,0;r1,1;"), 44);
  }

  private static void roofsAtOnePlace() {
    Check.says("1", "(several may be at one place)");
    EbonyPegs x = Check.laid("p0,4,0;r5,4;r5,4;r1,1;r5,4;r5,4;r5,4;b5,5,1,0;");
    Check.due("count(1)", x.count(1), 6);
    Check.due("near(1)", x.near(1), 1 | 2 | 8 | 16 | 32);
    x.turn(0);
    Check.due("now(6)", x.now(6), 1);
    for (int r = 0; r < 6; r++) Check.due("way(" + r + ", -1)", x.way(r, -1), r == 2 ? NONE : 0);
  }

  // ---- where it begins, who ride

  private static void beginBounds() {
    Check.says("1", "bX,Y,H,D it begins at X, Y (0 to 9), H (1 to 9) high, going to D (0 to 3)");
    bounds("bN,7,5,2;", 0, 9);
    bounds("b4,N,5,2;", 0, 9);
    bounds("b4,7,N,2;", 1, 9);
    bounds("b4,7,5,N;", 0, 3);
    for (int n = 0; n <= 9; n++) {
      int h = Math.max(1, n);
      EbonyPegs x = Check.laid("p0,5,0;b" + n + "," + (9 - n) + "," + h + "," + n % 4 + ";");
      Check.stands("begun", x, n, 9 - n, h, n % 4, 0, 1, 0, 0, NONE);
    }
  }

  private static void beginWithout() {
    Check.says("1", "(5, 5, 3, 0 without; the last one)");
    Check.stands("without b", Check.laid("p0,5,0;"), 5, 5, 3, 0, 0, 1, 0, 0, NONE);
    EbonyPegs x = Check.laid("p0,5,0;b1,2,9,3;");
    Check.text(x, "p0,5,0;");
    x.lay();
    Check.stands("without b, behind a text with one", x, 5, 5, 3, 0, 0, 1, 0, 0, NONE);
  }

  private static void beginLast() {
    Check.says("1", "5, 5, 3, 0 without; the last one)");
    Check.stands("two of b", Check.laid("b1,2,9,3;p0,5,0;b8,7,4,1;"), 8, 7, 4, 1);
    Check.stands("three of b", Check.laid("b1,2,9,3;b8,7,4,1;p0,5,0;b0,0,1,0;"), 0, 0, 1, 0);
  }

  private static void riderBounds() {
    Check.says("1", "tN N (1, 2) ride it");
    bounds("tN;", 1, 2);
    for (int n = 1; n <= 2; n++) Check.due("now(5) of t" + n, Check.laid("p0,5,0;t" + n + ";").now(5), n);
  }

  private static void riderWithout() {
    Check.says("1", "(1 without;");
    Check.due("now(5) without t", Check.laid("p0,5,0;").now(5), 1);
    EbonyPegs x = Check.laid("p0,5,0;t2;");
    Check.text(x, "p0,5,0;");
    x.lay();
    Check.due("now(5) without t, behind a text with one", x.now(5), 1);
  }

  private static void riderLast() {
    Check.says("1", "(1 without; the last one)");
    Check.due("now(5) of 1 and 2", Check.laid("t1;p0,5,0;t2;").now(5), 2);
    Check.due("now(5) of 2 and 1", Check.laid("t2;p0,5,0;t1;").now(5), 1);
    Check.due("now(5) of 2, 1 and 2", Check.laid("t2;t1;p0,5,0;t2;").now(5), 2);
  }

  // ---- fault

  private static void firstFault() {
    Check.says("1", "FAULT: the place of the first letter of the first ITEM that is not so.");
    Check.says("fault", "FAULT.");
    Check.due("fault() of two", faultOf("p0,5,0;w0,1;t3;"), 7);
    Check.due("fault() of two, the second one ahead", faultOf("t3;p0,5,0;w0,1;"), 0);
    Check.due("fault() of the last number", faultOf("t1;b1,1,1,4;"), 3);
    Check.due("fault() of an item that is not ended", faultOf("t1;w1,1t1;"), 3);
    Check.due("fault() of a letter that is none", faultOf("t1;t2;x"), 6);
    for (int items = 0; items <= 66; items++) Check.due("fault() behind " + items, faultOf("t1;".repeat(items) + "x"), 3 * items);
    // the last letter that a text can have
    Check.due("fault() at 199", faultOf("p0,5,0;" + "t1;".repeat(64) + "t"), 199);
    Whole.unchanged("fault()", () -> written("p0,5,0;w0,1;t3;"), EbonyPegs::fault);
  }

  private static void faultNone() {
    Check.says("fault", "NONE.");
    Check.due("fault() of a new object", new EbonyPegs().fault(), NONE);
    Check.due("fault() of the first text", faultOf(FIRST), NONE);
    Check.due("fault() without a peg", faultOf("t1;"), NONE);
    Whole.refused("fault() of a right text", () -> written("p0,5,0;t2;"), EbonyPegs::fault, NONE);
  }

  // ---- lay

  private static void aPegAtLeast() {
    Check.says("1", "LAID is a TEXT without FAULT, of a PEG at least (NO else;");
    for (String text : new String[] {"", "t1;", "w1,1;r1,1;b1,1,1,1;t2;"}) Check.due("lay() of " + text, written(text).lay(), NO);
    Check.due("lay() of one", written("t1;p0,5,0;").lay(), 1);
    Check.due("lay() of one and a fault behind it", written("p0,5,0;t3;").lay(), NO);
    Check.due("lay() of one and a fault ahead of it", written("t3;p0,5,0;").lay(), NO);
    Check.due("lay() of one that is not ended", written("p0,5,0").lay(), NO);
  }

  /** Everything is full: 6 seen, 8 to be undone, 2 kept. */
  private static EbonyPegs used(String text) {
    EbonyPegs x = new EbonyPegs();
    for (int i = 0; i < 6; i++) x.seen(i % 5, i % 4, 3 * i);
    for (int i = 0; i < 9; i++) x.flyOn();
    x.turn(0);
    x.keep();
    x.turn(4);
    x.keep();
    Check.counts("used", x, 5, 3, 6, 8, 2);
    Check.text(x, text);
    return x;
  }

  private static void layClears() {
    Check.says("lay", "LAID: how many PEGS; HOUR 0, nothing SEEN, UNDONE, KEPT.");
    String text = "p1,2,3;p2,8,1;w2,2;r1,9;r8,0;b3,4,5,1;t2;";
    EbonyPegs x = used(text);
    Check.due("lay()", x.lay(), 2);
    Check.stands("laid", x, 3, 4, 5, 1, 0, 2, 0, 0, NONE);
    Check.counts("laid", x, 2, 2, 0, 0, 0, text.length());
    x = used(text);
    x.lay();
    Check.holds("all is as in an object in which only this was laid", Whole.of(x).equals(Whole.of(Check.laid(text))));
    for (int pegs = 1; pegs <= 7; pegs++) Check.due("lay() of " + pegs, written("p0,5,0;".repeat(pegs)).lay(), pegs);
  }

  private static void layRefused() {
    Check.says("lay", "NO.");
    String eight = "p1,1,1;".repeat(8);
    for (String text : new String[] {"", "t2;", "w1,3;r1,1;b1,1,1,1;t2;", "p1,1,1;t3;", "p1,1,1;w9,9;", "p1,1,1", eight}) {
      Whole.refused("lay() of " + text, () -> used(text), EbonyPegs::lay, NO);
      // where it begins, too, is as it was
      EbonyPegs x = used(text);
      x.lay();
      Check.due("which(4, 4, 5) behind a refused lay()", x.which(4, 4, 5), 1);
    }
  }

  // ---- peg, wind, roof

  private static void pegTold() {
    Check.says("peg", "Of a PEG: KIND (what = 0), U (1), T (2),");
    EbonyPegs x = Check.laid("p0,0,0;p3,9,3;p1,8,2;p2,1,1;p0,9,3;p3,0,0;p1,5,1;");
    int[][] told = {{0, 0, 0}, {3, 9, 3}, {1, 8, 2}, {2, 1, 1}, {0, 9, 3}, {3, 0, 0}, {1, 5, 1}};
    for (int p = 0; p < 7; p++)
      for (int what = 0; what < 3; what++) Check.due("peg(" + p + ", " + what + ")", x.peg(p, what), told[p][what]);
  }

  private static void pegLiftNow() {
    Check.says("peg", "by how much it would lift now, and 20 (3),");
    // the least and the most of each kind, neither cut at the height
    for (int h : new int[] {1, 9}) {
      EbonyPegs x = Check.laid("p0,0,0;p0,9,0;p3,0,0;p3,9,0;p2,0,0;p2,9,0;t2;b5,5," + h + ",2;");
      int[] lifts = {15, 24, 13, 22, 25, 16};
      for (int p = 0; p < 6; p++) Check.due("peg(" + p + ", 3) at height " + h, x.peg(p, 3), lifts[p]);
    }
    EbonyPegs x = Check.laid("p1,0,0;p1,9,0;p1,5,0;");
    Check.due("peg(0, 3), none ahead", x.peg(0, 3), 15);
    Check.due("peg(1, 3), none ahead", x.peg(1, 3), 24);
    x.turn(2);
    Check.due("peg(0, 3), doubled", x.peg(0, 3), 10);
    Check.due("peg(1, 3), doubled", x.peg(1, 3), 28);
    Check.due("peg(2, 3), doubled", x.peg(2, 3), 20);
  }

  private static void pegTurnNow() {
    Check.says("peg", "how many quarters to the right it would turn now (4).");
    int[] left = {0, 3, 2, 1};
    for (int course = 0; course < 4; course++)
      for (int t = 0; t < 4; t++) {
        EbonyPegs x = Check.laid("p2,5," + t + ";p0,5," + t + ";p1,5," + t + ";p3,5," + t + ";t2;b5,5,5," + course + ";");
        Check.due("peg(0, 4) of TURNED, T " + t + ", course " + course, x.peg(0, 4), course < 2 ? t : left[t]);
        for (int p = 1; p < 4; p++) Check.due("peg(" + p + ", 4), T " + t + ", course " + course, x.peg(p, 4), t);
      }
  }

  private static void pegRefused() {
    Check.says("peg", "BAD.");
    for (int pegs = 1; pegs <= 7; pegs++) {
      int many = pegs;
      Supplier<EbonyPegs> maker = () -> Check.laid("p3,7,1;".repeat(many));
      for (int what = 0; what <= 4; what++) {
        Check.holds("peg(" + (pegs - 1) + ", " + what + ") of " + pegs, maker.get().peg(pegs - 1, what) >= 0);
        int asked = what;
        for (int p : new int[] {-1, pegs, pegs + 1, 7, Integer.MIN_VALUE, Integer.MAX_VALUE})
          Whole.refused("peg(" + p + ", " + what + ") of " + pegs, maker, x -> x.peg(p, asked), BAD);
      }
      for (int what : new int[] {-1, 5, Integer.MIN_VALUE, Integer.MAX_VALUE})
        Whole.refused("peg(0, " + what + ")", maker, x -> x.peg(0, what), BAD);
    }
  }

  private static void windOf() {
    Check.says("wind", "The WIND at a HEIGHT (1 to 9).");
    EbonyPegs x = Check.laid("p0,5,0;w1,3;w2,2;w8,1;w9,0;");
    int[] winds = {3, 2, 4, 4, 4, 4, 4, 1, 0};
    for (int h = 1; h <= 9; h++) Check.due("wind(" + h + ")", x.wind(h), winds[h - 1]);
  }

  private static void windRefused() {
    Check.says("wind", "BAD.");
    for (int h : new int[] {0, 10, -1, 11, Integer.MIN_VALUE, Integer.MAX_VALUE})
      Whole.refused("wind(" + h + ")", () -> Check.laid("p0,5,0;w1,3;w9,0;"), x -> x.wind(h), BAD);
  }

  private static void roofOf() {
    Check.says("roof", "Of a ROOF: X (what = 0), Y (1).");
    EbonyPegs x = Check.laid("p0,5,0;r0,9;r9,0;r0,0;r9,9;r1,2;r8,7;");
    int[][] roofs = {{0, 9}, {9, 0}, {0, 0}, {9, 9}, {1, 2}, {8, 7}};
    for (int r = 0; r < 6; r++)
      for (int what = 0; what < 2; what++) Check.due("roof(" + r + ", " + what + ")", x.roof(r, what), roofs[r][what]);
  }

  private static void roofRefused() {
    Check.says("roof", "BAD.");
    for (int roofs = 0; roofs <= 6; roofs++) {
      int many = roofs;
      Supplier<EbonyPegs> maker = () -> Check.laid("p0,5,0;" + "r1,2;".repeat(many));
      for (int what = 0; what <= 1; what++) {
        if (roofs > 0) Check.due("roof(" + (roofs - 1) + ", " + what + ") of " + roofs, maker.get().roof(roofs - 1, what), what + 1);
        int asked = what;
        for (int r : new int[] {-1, roofs, roofs + 1, 6, Integer.MIN_VALUE, Integer.MAX_VALUE})
          Whole.refused("roof(" + r + ", " + what + ") of " + roofs, maker, x -> x.roof(r, asked), BAD);
      }
      for (int what : new int[] {-1, 2, Integer.MIN_VALUE, Integer.MAX_VALUE})
        Whole.refused("roof(0, " + what + ") of " + roofs, maker, x -> x.roof(0, what), BAD);
    }
  }
}
