/** Promises 1 to 8: the new object, write, wipe, fault, lay, peg, wind, roof. */
public final class HorsesTest {
  private static final int BAD = EbonyPegs.BAD, NO = EbonyPegs.NO, FULL = EbonyPegs.FULL, NONE = EbonyPegs.NONE;

  public static void main(String[] args) {
    newObject();
    write();
    wipe();
    faults();
    noFaults();
    lay();
    layRefused();
    peg();
    pegNow();
    wind();
    roof();
    Check.end();
  }

  private static void newObject() {
    EbonyPegs x = new EbonyPegs();
    int[][] pegs = {{0, 7, 0}, {0, 3, 1}, {1, 4, 0}, {2, 6, 1}, {3, 9, 3}};
    for (int p = 0; p < pegs.length; p++)
      for (int what = 0; what < 3; what++) Check.due("new: peg(" + p + ", " + what + ")", x.peg(p, what), pegs[p][what]);
    int[] winds = {1, 4, 2, 4, 3, 4, 0, 4, 4};
    for (int h = 1; h <= 9; h++) Check.due("new: wind(" + h + ")", x.wind(h), winds[h - 1]);
    int[][] roofs = {{5, 3}, {7, 7}, {2, 6}};
    for (int r = 0; r < roofs.length; r++)
      for (int what = 0; what < 2; what++) Check.due("new: roof(" + r + ", " + what + ")", x.roof(r, what), roofs[r][what]);
    Check.stands("new", x, 5, 5, 3, 0, 0, 1, 0, 0, NONE);
    int[] counts = {5, 3, 0, 0, 0, 0};
    for (int what = 0; what < 6; what++) Check.due("new: count(" + what + ")", x.count(what), counts[what]);
    Check.due("new: fault()", x.fault(), NONE);
    Check.due("new: lay()", x.lay(), NO);
    Check.due("new: wipe()", x.wipe(), 0);
    Check.due("BAD", BAD, -1);
    Check.due("NO", NO, -2);
    Check.due("FULL", FULL, -3);
    Check.due("NONE", NONE, -4);
  }

  private static void write() {
    EbonyPegs x = new EbonyPegs();
    int[] bad = {31, 127, 0, -1, 1000, 65536 + 112, Integer.MIN_VALUE, Integer.MAX_VALUE};
    for (int letter : bad) Check.due("write(" + letter + ")", x.write(letter), BAD);
    Check.due("count(5) behind bad letters", x.count(5), 0);
    Check.due("write(32)", x.write(32), 1);
    Check.due("write(126)", x.write(126), 2);
    for (int i = 3; i <= 200; i++) Check.due("write " + i, x.write('p'), i);
    Check.due("write to a full text", x.write('p'), FULL);
    Check.due("a bad letter to a full text", x.write(31), BAD);
    Check.due("count(5) of a full text", x.count(5), 200);
    Check.due("fault() of a full text", x.fault(), 0);
    Check.due("wipe()", x.wipe(), 200);
    Check.due("write behind wipe", x.write('p'), 1);
  }

  private static void wipe() {
    EbonyPegs x = Check.laid("p0,1,2;");
    Check.due("wipe()", x.wipe(), 7);
    Check.due("wipe() again", x.wipe(), 0);
    Check.due("fault() behind wipe", x.fault(), NONE);
    Check.due("peg(0, 1) behind wipe", x.peg(0, 1), 1);
    Check.text(x, "p9,");
    Check.due("wipe() of a text with a fault", x.wipe(), 3);
  }

  private static void fault(String text, int want) {
    EbonyPegs x = new EbonyPegs();
    Check.text(x, text);
    Check.due("fault() of " + text, x.fault(), want);
    Check.due("count(0) behind fault() of " + text, x.count(0), 5);
    Check.due("count(5) behind fault() of " + text, x.count(5), text.length());
    if (want != NONE) Check.due("lay() of " + text, x.lay(), NO);
  }

  private static void faults() {
    String[] wrong = {
      "p4,0,0;", "p0,10,0;", "p0,0,4;", "p0,0;", "p0,0,0,0;", "p;", "p", "p0", "p0,", "p0,0,0", "p,0,0;", "p0,,0;",
      "p000,0,0;", "p0,000,0;", "p0,005,0;", "p0,5,000;", "p-1,0,0;", "p 0,0,0;", "p0,0,0 ;", "p0;0;0;", "p0,0,0,",
      "P0,0,0;", "w0,0;", "w10,0;", "w1,5;", "w1;", "w1,1,1;", "W1,1;", "r10,0;", "r0,10;", "r0;", "r0,0,0;",
      "b10,0,1,0;", "b0,10,1,0;", "b0,0,0,0;", "b0,0,10,0;", "b0,0,1,4;", "b0,0,1;", "b0,0,1,0,0;",
      "t0;", "t3;", "t;", "t1,1;", "t1", ";", ",", "0", " ", "q1;", "~", "t99;", "p0:0,0;", "p/,0,0;", "b0,0,1,0",
      "pp0,0,0;", "p0,0,0p;", "t1x;"
    };
    for (String item : wrong) {
      fault(item, 0);
      fault("p0,7,1;" + item, 7);
      fault("p0,7,1;t2;" + item + "p0,5,0;", 10);
      fault("t1;" + item + "!", 3);
    }
    fault("p0,5,0;;", 7);
    fault("p0,5,0; t1;", 7);
    StringBuilder pegs = new StringBuilder();
    for (int i = 0; i < 7; i++) pegs.append("p0,5,0;");
    fault(pegs.toString(), NONE);
    fault(pegs + "p0,5,0;", 49);
    fault(pegs + "t3;p0,5,0;", 49);
    fault(pegs + "t1;p0,5,0;t3;", 52);
    StringBuilder roofs = new StringBuilder();
    for (int i = 0; i < 6; i++) roofs.append("r5,5;");
    fault(roofs.toString(), NONE);
    fault(roofs + "r1,2;", 30);
  }

  private static void noFaults() {
    String[] right = {
      "", "p0,0,0;", "p3,9,3;", "p03,09,03;", "p00,00,00;", "w1,0;", "w9,4;", "w09,04;", "r0,0;", "r9,9;", "r09,00;",
      "b0,0,1,0;", "b9,9,9,3;", "b09,09,09,03;", "t1;", "t2;", "t02;", "t1;t2;t1;", "w1,0;w1,1;w1,2;", "b0,0,1,0;b1,1,1,1;",
      "r1,1;p0,1,1;w1,1;t1;b1,1,1,1;p0,1,1;r2,2;"
    };
    for (String text : right) fault(text, NONE);
  }

  private static void lay() {
    EbonyPegs x = new EbonyPegs();
    x.turn(0);
    x.keep();
    x.seen(0, 0, 20);
    Check.text(x, "r1,2;p2,8,3;w4,1;w4,3;b1,1,1,1;p3,0,2;t1;b7,8,9,2;t2;w9,0;");
    Check.due("lay()", x.lay(), 2);
    Check.stands("laid", x, 7, 8, 9, 2, 0, 2, 0, 0, NONE);
    int[] counts = {2, 1, 0, 0, 0, 58};
    for (int what = 0; what < 6; what++) Check.due("laid: count(" + what + ")", x.count(what), counts[what]);
    int[] winds = {4, 4, 4, 3, 4, 4, 4, 4, 0};
    for (int h = 1; h <= 9; h++) Check.due("laid: wind(" + h + ")", x.wind(h), winds[h - 1]);
    Check.due("undo() behind lay", x.undo(), NO);
    Check.due("back() behind lay", x.back(), NO);
    Check.due("may(0, 0) behind lay", x.may(0, 0), 15);
    x.turn(0);
    x.turn(0);
    Check.due("lay() of the same text", x.lay(), 2);
    Check.stands("laid again", x, 7, 8, 9, 2, 0, 2, 0, 0, NONE);
    x = Check.laid("p0,5,0;");
    Check.stands("laid without b and t", x, 5, 5, 3, 0, 0, 1, 0, 0, NONE);
    Check.due("count(1) of no roofs", x.count(1), 0);
    for (int h = 1; h <= 9; h++) Check.due("no winds: wind(" + h + ")", x.wind(h), 4);
    // nothing of the text ahead is left
    x = Check.laid("p0,5,0;p0,6,0;r1,1;w1,1;w9,2;b1,2,9,3;t2;");
    Check.text(x, "p2,3,1;");
    Check.due("lay() of another text", x.lay(), 1);
    Check.stands("laid behind another", x, 5, 5, 3, 0, 0, 1, 0, 0, NONE);
    Check.due("peg(0, 0) behind another", x.peg(0, 0), 2);
    Check.due("peg(1, 0) behind another", x.peg(1, 0), BAD);
    Check.due("roof(0, 0) behind another", x.roof(0, 0), BAD);
    for (int h = 1; h <= 9; h++) Check.due("behind another: wind(" + h + ")", x.wind(h), 4);
    StringBuilder long200 = new StringBuilder("p1,2,3;");
    while (long200.length() < 199) long200.append("t1;");
    long200.setLength(199);
    Check.holds("a text of 199 letters ends with an item", long200.charAt(198) == ';');
    x = Check.laid(long200.toString());
    x.write('t');
    Check.due("fault() at the last letter", x.fault(), 199);
    Check.due("lay() with a fault at the last letter", x.lay(), NO);
  }

  private static void layRefused() {
    String[] refused = {"", "t1;", "r1,1;w1,1;b1,1,1,1;t2;", "p0,0,0", "p0,1,1;t3;", "p0,1,1;x"};
    for (String text : refused) {
      EbonyPegs x = new EbonyPegs();
      x.turn(2);
      x.keep();
      x.seen(0, 0, 20);
      Check.text(x, text);
      Check.due("lay() of " + text, x.lay(), NO);
      Check.stands("refused " + text, x, 5, 4, 2, 0, 1, 1, 0, 0, 2);
      int[] counts = {5, 3, 1, 1, 1, text.length()};
      for (int what = 0; what < 6; what++) Check.due("refused " + text + ": count(" + what + ")", x.count(what), counts[what]);
      Check.due("refused: peg(4, 1)", x.peg(4, 1), 9);
      Check.due("refused: wind(1)", x.wind(1), 1);
      Check.due("refused: roof(0, 0)", x.roof(0, 0), 5);
      Check.due("refused: undo()", x.undo(), 0);
      Check.due("refused: back()", x.back(), 0);
    }
  }

  private static void peg() {
    EbonyPegs x = Check.laid("p0,0,0;p1,9,1;p2,5,2;p3,4,3;");
    int[][] pegs = {{0, 0, 0, 15, 0}, {1, 9, 1, 24, 1}, {2, 5, 2, 20, 2}, {3, 4, 3, 19, 3}};
    for (int p = 0; p < 4; p++)
      for (int what = 0; what < 5; what++) Check.due("peg(" + p + ", " + what + ")", x.peg(p, what), pegs[p][what]);
    int[][] bad = {{-1, 0}, {4, 0}, {7, 0}, {0, -1}, {0, 5}, {Integer.MAX_VALUE, 3}, {0, Integer.MIN_VALUE}, {Integer.MIN_VALUE, 4}};
    for (int[] call : bad) Check.due("peg(" + call[0] + ", " + call[1] + ")", x.peg(call[0], call[1]), BAD);
  }

  private static void pegNow() {
    // a DOUBLING peg by the peg ahead of it
    EbonyPegs x = Check.laid("p1,7,0;p1,4,0;p0,5,0;");
    x.turn(0);
    Check.due("doubled: peg(0, 3)", x.peg(0, 3), 24);
    Check.due("doubled: peg(1, 3)", x.peg(1, 3), 18);
    Check.due("plain: peg(2, 3)", x.peg(2, 3), 20);
    x.turn(1);
    Check.due("doubled once, not twice: peg(0, 3)", x.peg(0, 3), 24);
    x.turn(2);
    Check.due("behind a plain one: peg(0, 3)", x.peg(0, 3), 22);
    // a TURNED peg by the course, a HEAVY one by who ride
    int[] lifts = {23, 23, 17, 17};
    int[] quarters = {3, 3, 1, 1};
    for (int d = 0; d < 4; d++) {
      x = Check.laid("p2,8,3;p3,0,3;p0,0,3;p2,8,0;p2,8,2;t2;b5,5,5," + d + ";");
      Check.due("course " + d + ": peg(0, 3)", x.peg(0, 3), lifts[d]);
      Check.due("course " + d + ": peg(0, 4)", x.peg(0, 4), quarters[d]);
      Check.due("course " + d + ": peg(1, 3)", x.peg(1, 3), 13);
      Check.due("course " + d + ": peg(1, 4)", x.peg(1, 4), 3);
      Check.due("course " + d + ": peg(2, 3)", x.peg(2, 3), 15);
      Check.due("course " + d + ": peg(2, 4)", x.peg(2, 4), 3);
      Check.due("course " + d + ": peg(3, 4)", x.peg(3, 4), 0);
      Check.due("course " + d + ": peg(4, 4)", x.peg(4, 4), 2);
    }
    // what it would lift is not cut by how high it is
    x = Check.laid("p0,9,0;p0,0,0;p1,0,0;b5,5,9,0;");
    Check.due("at the top: peg(0, 3)", x.peg(0, 3), 24);
    x = Check.laid("p1,0,0;b5,5,1,0;");
    x.turn(0);
    Check.due("fallen: peg(0, 3)", x.peg(0, 3), 10);
  }

  private static void wind() {
    EbonyPegs x = Check.laid("p0,5,0;w1,0;w2,1;w3,2;w4,3;w5,4;w6,0;w6,4;w9,3;");
    int[] winds = {0, 1, 2, 3, 4, 4, 4, 4, 3};
    for (int h = 1; h <= 9; h++) Check.due("wind(" + h + ")", x.wind(h), winds[h - 1]);
    int[] bad = {0, 10, -1, Integer.MIN_VALUE, Integer.MAX_VALUE};
    for (int h : bad) Check.due("wind(" + h + ")", x.wind(h), BAD);
  }

  private static void roof() {
    EbonyPegs x = Check.laid("p0,5,0;r0,9;r9,0;r3,4;r3,4;r1,2;r8,7;");
    int[][] roofs = {{0, 9}, {9, 0}, {3, 4}, {3, 4}, {1, 2}, {8, 7}};
    for (int r = 0; r < 6; r++)
      for (int what = 0; what < 2; what++) Check.due("roof(" + r + ", " + what + ")", x.roof(r, what), roofs[r][what]);
    int[][] bad = {{-1, 0}, {6, 0}, {0, -1}, {0, 2}, {Integer.MAX_VALUE, 1}, {5, Integer.MIN_VALUE}};
    for (int[] call : bad) Check.due("roof(" + call[0] + ", " + call[1] + ")", x.roof(call[0], call[1]), BAD);
    x = Check.laid("p0,5,0;");
    Check.due("roof(0, 0) of none", x.roof(0, 0), BAD);
    x = Check.laid("p0,5,0;r1,1;");
    Check.due("roof(1, 0) of one", x.roof(1, 0), BAD);
  }
}
