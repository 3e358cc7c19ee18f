/** Promises 9 to 13: turn, flyOn, setDown, undo, now. */
public final class FlyingTest {
  private static final int BAD = EbonyPegs.BAD, NO = EbonyPegs.NO, NONE = EbonyPegs.NONE;

  public static void main(String[] args) {
    courses();
    winds();
    edges();
    heights();
    kinds();
    landing();
    turnRefused();
    flyOn();
    setDown();
    setDownRefused();
    undo();
    undoneAll();
    now();
    Check.end();
  }

  private static void courses() {
    // course 0 to 3 and T 0 to 3: where it goes
    int[][] spots = {{5, 4}, {6, 5}, {5, 6}, {4, 5}};
    for (int d = 0; d < 4; d++)
      for (int t = 0; t < 4; t++) {
        EbonyPegs x = Check.laid("p0,6," + t + ";b5,5,3," + d + ";");
        int to = (d + t) % 4;
        Check.due("turn(0)", x.turn(0), 4);
        Check.stands("course " + d + ", T " + t, x, spots[to][0], spots[to][1], 4, to, 1, 1, 0, 0, 0);
      }
  }

  private static void winds() {
    int[][] spots = {{5, 3}, {6, 4}, {5, 5}, {4, 4}, {5, 4}};
    for (int d = 0; d < 5; d++) {
      // the wind of the new height blows, not the one of the old
      EbonyPegs x = Check.laid("p0,7,0;w3,1;w5," + d + ";");
      Check.due("turn(0)", x.turn(0), 5);
      Check.stands("wind " + d, x, spots[d][0], spots[d][1], 5, 0);
    }
  }

  private static void edges() {
    String[] begins = {"b5,0,3,0;", "b9,5,3,1;", "b5,9,3,2;", "b0,5,3,3;"};
    int[][] spots = {{5, 0}, {9, 5}, {5, 9}, {0, 5}};
    for (int d = 0; d < 4; d++) {
      EbonyPegs x = Check.laid("p0,5,0;" + begins[d]);
      x.turn(0);
      Check.stands("edge " + d, x, spots[d][0], spots[d][1], 3, d);
      // the wind goes on from the edge that held it
      x = Check.laid("p0,5,0;w3," + (d + 2) % 4 + ";" + begins[d]);
      x.turn(0);
      int[] east = {0, -1, 0, 1};
      int[] south = {1, 0, -1, 0};
      Check.stands("wind from the edge " + d, x, spots[d][0] + east[d], spots[d][1] + south[d], 3, d);
      x = Check.laid("p0,5,0;w3," + d + ";" + begins[d]);
      x.turn(0);
      Check.stands("wind beyond the edge " + d, x, spots[d][0], spots[d][1], 3, d);
    }
    EbonyPegs x = Check.laid("p0,5,0;b0,0,3,0;w3,3;");
    Check.due("flyOn() in the corner", x.flyOn(), 0);
    x = Check.laid("p0,5,0;b9,9,3,2;w3,1;");
    Check.due("flyOn() in the other corner", x.flyOn(), 99);
  }

  private static void heights() {
    for (int h = 1; h <= 9; h++)
      for (int u = 0; u <= 9; u++) {
        EbonyPegs x = Check.laid("p0," + u + ",0;b5,5," + h + ",0;");
        int want = Math.max(0, Math.min(9, h + u - 5));
        Check.due("height " + h + ", U " + u, x.turn(0), want);
        Check.due("fallen from " + h + " by " + u, x.now(7), want == 0 ? 1 : 0);
      }
  }

  private static void kinds() {
    EbonyPegs x = Check.laid("p1,6,0;p0,5,0;b5,9,1,0;");
    Check.due("the first DOUBLING one", x.turn(0), 2);
    Check.due("the second DOUBLING one", x.turn(0), 4);
    Check.due("the third DOUBLING one", x.turn(0), 6);
    Check.due("a plain one between", x.turn(1), 6);
    Check.due("DOUBLING behind the plain one", x.turn(0), 7);
    x.flyOn();
    Check.due("DOUBLING behind flying on", x.turn(0), 8);
    x = Check.laid("p1,6,0;p1,4,1;b5,9,1,0;");
    x.turn(0);
    Check.due("DOUBLING behind another DOUBLING", x.turn(1), 0);
    for (int d = 0; d < 4; d++) {
      // the course ahead of the turn decides, for height and for course
      x = Check.laid("p2,7,1;b5,5,5," + d + ";");
      Check.due("TURNED at course " + d, x.turn(0), d < 2 ? 7 : 3);
      Check.due("TURNED at course " + d + ": course", x.now(3), d < 2 ? d + 1 : d - 1);
    }
    x = Check.laid("p3,9,0;t2;b5,5,1,0;");
    Check.due("HEAVY with two", x.turn(0), 3);
    x = Check.laid("p3,9,0;t1;b5,5,1,0;");
    Check.due("HEAVY with one", x.turn(0), 5);
    x = Check.laid("p0,9,0;p1,9,0;p2,9,0;t2;b5,5,1,0;");
    Check.due("PLAIN with two", x.peg(0, 3), 24);
    Check.due("DOUBLING with two", x.peg(1, 3), 24);
    Check.due("TURNED with two", x.peg(2, 3), 24);
  }

  private static void landing() {
    // no wind at 0, whatever blows higher up
    EbonyPegs x = Check.laid("p0,4,1;r6,5;w1,1;b5,5,1,0;");
    Check.due("turn(0)", x.turn(0), 0);
    Check.stands("landed", x, 6, 5, 0, 1, 1, 1, 1, 0, 0);
    x = Check.laid("p0,4,1;r5,5;r7,5;w1,1;b5,5,1,0;");
    Check.due("turn(0)", x.turn(0), 0);
    Check.stands("fallen", x, 6, 5, 0, 1, 1, 1, 0, 1, 0);
    x = Check.laid("p0,4,0;b5,5,1,0;");
    x.turn(0);
    Check.stands("fallen without roofs", x, 5, 4, 0, 0, 1, 1, 0, 1, 0);
    x = Check.laid("p0,5,0;r5,4;b5,5,1,0;");
    x.turn(0);
    Check.stands("above a roof", x, 5, 4, 1, 0, 1, 1, 0, 0, 0);
    x = Check.laid("p0,4,1;r1,1;r6,5;r6,5;b5,5,1,0;");
    x.turn(0);
    Check.stands("landed where two roofs are", x, 6, 5, 0, 1, 1, 1, 1, 0, 0);
  }

  private static void turnRefused() {
    int[] bad = {-1, 2, 7, Integer.MIN_VALUE, Integer.MAX_VALUE};
    String[] texts = {"p0,4,1;p0,5,0;r6,5;b5,5,1,0;", "p0,4,1;p0,5,0;b5,5,1,0;"};
    for (int i = 0; i < 2; i++) {
      EbonyPegs x = Check.laid(texts[i]);
      for (int p : bad) Check.due("turn(" + p + ")", x.turn(p), BAD);
      Check.due("count(3) behind bad turns", x.count(3), 0);
      x.turn(0);
      Check.due("turn(1) when down", x.turn(1), NO);
      for (int p : bad) Check.due("turn(" + p + ") when down", x.turn(p), BAD);
      Check.due("flyOn() when down", x.flyOn(), NO);
      Check.stands("down", x, 6, 5, 0, 1, 1, 1, 1 - i, i, 0);
      Check.due("count(3)", x.count(3), 1);
    }
  }

  private static void flyOn() {
    EbonyPegs x = Check.laid("p1,6,0;w3,1;w4,3;b2,7,3,0;");
    Check.due("flyOn()", x.flyOn(), 63);
    Check.stands("flown", x, 3, 6, 3, 0, 1, 1, 0, 0, NONE);
    x.turn(0);
    Check.stands("turned", x, 2, 5, 4, 0, 2, 1, 0, 0, 0);
    Check.due("flyOn()", x.flyOn(), 41);
    Check.stands("flown again", x, 1, 4, 4, 0, 3, 1, 0, 0, NONE);
    Check.due("count(3)", x.count(3), 3);
  }

  private static EbonyPegs landedWithTwo() {
    EbonyPegs x = Check.laid("p1,4,1;p3,9,0;r6,5;t2;w1,2;b5,5,1,0;");
    x.turn(0);
    return x;
  }

  private static void setDown() {
    EbonyPegs x = landedWithTwo();
    Check.stands("landed with two", x, 6, 5, 0, 1, 1, 2, 1, 0, 0);
    Check.due("setDown()", x.setDown(), 1);
    Check.stands("set down", x, 6, 5, 1, 1, 1, 1, 0, 0, NONE);
    Check.due("setDown() again", x.setDown(), NO);
    Check.due("no DOUBLING one is ahead", x.peg(0, 3), 19);
    Check.due("HEAVY with one", x.peg(1, 3), 24);
    Check.due("count(3)", x.count(3), 2);
    Check.due("undo()", x.undo(), 1);
    Check.stands("set down undone", x, 6, 5, 0, 1, 1, 2, 1, 0, 0);
    x.setDown();
    Check.due("turn behind setDown", x.turn(1), 5);
  }

  private static void setDownRefused() {
    EbonyPegs x = Check.laid("p0,4,1;r6,5;t1;b5,5,1,0;");
    x.turn(0);
    Check.due("setDown() with one", x.setDown(), NO);
    x = Check.laid("p0,4,1;t2;b5,5,1,0;");
    Check.due("setDown() in the air", x.setDown(), NO);
    x.turn(0);
    Check.due("setDown() when fallen", x.setDown(), NO);
    Check.stands("fallen with two", x, 6, 5, 0, 1, 1, 2, 0, 1, 0);
    Check.due("count(3)", x.count(3), 1);
    x = Check.laid("p0,5,1;t2;r6,5;b5,5,1,0;");
    x.turn(0);
    Check.due("setDown() above a roof", x.setDown(), NO);
  }

  private static void undo() {
    EbonyPegs x = landedWithTwo();
    x.setDown();
    x.turn(0);
    Check.stands("four things", x, 6, 6, 0, 2, 2, 1, 0, 1, 0);
    Check.due("undo()", x.undo(), 2);
    Check.stands("undone", x, 6, 5, 1, 1, 1, 1, 0, 0, NONE);
    x.flyOn();
    Check.due("undo() of flying on", x.undo(), 2);
    Check.stands("undone", x, 6, 5, 1, 1, 1, 1, 0, 0, NONE);
    Check.due("undo()", x.undo(), 1);
    Check.due("undo()", x.undo(), 0);
    Check.stands("as laid", x, 5, 5, 1, 0, 0, 2, 0, 0, NONE);
    Check.due("undo() of nothing", x.undo(), NO);
    Check.stands("as laid", x, 5, 5, 1, 0, 0, 2, 0, 0, NONE);
    // what cannot be undone leaves what can be
    x.turn(0);
    x.keep();
    x.seen(0, 0, 18);
    x.write('p');
    x.safe();
    x.turn(0);
    x.turn(9);
    Check.due("undo()", x.undo(), 0);
    Check.due("count(2) behind undo", x.count(2), 1);
    Check.due("count(4) behind undo", x.count(4), 1);
    Check.due("count(5) behind undo", x.count(5), "p1,4,1;p3,9,0;r6,5;t2;w1,2;b5,5,1,0;".length() + 1);
  }

  private static void undoneAll() {
    EbonyPegs x = Check.laid("p0,5,1;p0,5,0;b5,5,4,0;");
    for (int i = 1; i <= 20; i++) {
      if (i % 3 == 0) x.flyOn(); else x.turn(i % 2);
      Check.due("count(3) behind " + i, x.count(3), Math.min(i, 8));
    }
    for (int left = 7; left >= 0; left--) {
      Check.due("undo()", x.undo(), left);
      int hours = 12 + left;
      Check.due("hours", x.now(4), hours);
      Check.due("ahead", x.now(8), hours % 3 == 0 ? NONE : hours % 2);
    }
    Check.due("undo() of the ninth", x.undo(), NO);
    Check.due("hours", x.now(4), 12);
    x.turn(0);
    Check.due("undo()", x.undo(), 0);
    Check.due("hours", x.now(4), 12);
  }

  private static void now() {
    EbonyPegs x = new EbonyPegs();
    int[] bad = {-1, 9, 10, Integer.MIN_VALUE, Integer.MAX_VALUE};
    for (int what : bad) Check.due("now(" + what + ")", x.now(what), BAD);
    x = Check.laid("p0,5,0;p0,5,0;p0,5,0;p0,5,0;p0,5,0;p0,5,0;p0,5,0;b1,2,3,1;t2;");
    Check.stands("laid", x, 1, 2, 3, 1, 0, 2, 0, 0, NONE);
    for (int p = 0; p < 7; p++) {
      x.turn(p);
      Check.due("now(8)", x.now(8), p);
      Check.due("now(4)", x.now(4), p + 1);
    }
  }
}
