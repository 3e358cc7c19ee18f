/** "What it is", from the document's first line on: each thing that it names, worked out by hand. */
public final class StoryTest {
  private static final int NO = EbonyPegs.NO, FULL = EbonyPegs.FULL, NONE = EbonyPegs.NONE;
  /**
   * Pegs: 0 up by 1; 1 down by 1; 2 DOUBLING, down by 1 and to the right; 3 TURNED, up by 1 and to
   * the right; 4 HEAVY, level, half round; 5 up by 2. East wind at 1, north wind at 2. It begins
   * at 5, 5, 2 high, to the north, and two ride.
   */
  private static final String TALE = "p0,6,0;p0,4,0;p1,4,1;p2,6,1;p3,5,2;p0,7,0;w1,1;w2,0;r6,3;r7,6;b5,5,2,0;t2;";

  public static void main(String[] args) {
    noneToComeDown();
    toldInAText();
    turnedAndUndone();
    landedOrFallen();
    wouldBe();
    guessed();
    kept();
    Check.end();
  }

  private static void noneToComeDown() {
    Check.says("what", "A peg to go up, none to come down:");
    EbonyPegs x = Check.laid("p0,9,0;r5,0;b5,5,1,0;");
    Check.due("way(0, -1)", x.way(0, -1), NONE);
    Check.due("near(5)", x.near(5), 0);
    Check.due("undoes(0)", x.undoes(0), 0);
    Check.due("safe()", x.safe(), 1);
    Check.says("what", "a horse of ebony flies when its pegs are turned,");
    Check.due("turn(0)", x.turn(0), 5);
    Check.stands("turned once", x, 5, 4, 5, 0, 1, 1, 0, 0, 0);
    Check.says("what", "and a prince is out of sight before he finds the other one,");
    Check.due("turn(0) again", x.turn(0), 9);
    for (int i = 0; i < 20; i++) Check.due("turn(0) once more", x.turn(0), 9);
    Check.stands("as far and as high as it goes", x, 5, 0, 9, 0, 22, 1, 0, 0, 0);
    Check.due("flight(1, 40, 0)", x.flight(1, 40, 0), NONE);
    Check.due("flight(1, 40, 1)", x.flight(1, 40, 1), 905);
    Check.due("likely(5, 0)", x.likely(5, 0), 0);
    Check.due("likely(5, 1)", x.likely(5, 1), 1);
  }

  private static void toldInAText() {
    Check.says("what", "told in a text with the first fault:");
    EbonyPegs x = new EbonyPegs();
    Check.text(x, "p0,6,0;p0,4;q;");
    Check.due("fault()", x.fault(), 7);
    Check.due("lay()", x.lay(), NO);
    x = Check.laid(TALE);
    Check.due("fault()", x.fault(), NONE);
    Check.says("what", "pegs by kind, what each does to height and course, winds by height, roofs, where one begins, who rides;");
    int[][] pegs = {{0, 6, 0, 21, 0}, {0, 4, 0, 19, 0}, {1, 4, 1, 19, 1}, {2, 6, 1, 21, 1}, {3, 5, 2, 18, 2}, {0, 7, 0, 22, 0}};
    for (int p = 0; p < pegs.length; p++)
      for (int what = 0; what < 5; what++) Check.due("peg(" + p + ", " + what + ")", x.peg(p, what), pegs[p][what]);
    for (int h = 1; h <= 9; h++) Check.due("wind(" + h + ")", x.wind(h), h == 1 ? 1 : h == 2 ? 0 : 4);
    Check.due("roof(0, 0)", x.roof(0, 0), 6);
    Check.due("roof(0, 1)", x.roof(0, 1), 3);
    Check.due("roof(1, 0)", x.roof(1, 0), 7);
    Check.due("roof(1, 1)", x.roof(1, 1), 6);
    Check.stands("it begins", x, 5, 5, 2, 0, 0, 2, 0, 0, NONE);
    Check.counts("it begins", x, 6, 2, 0, 0, 0, TALE.length());
  }

  private static void turnedAndUndone() {
    Check.says("what", "pegs turned one behind the other, one left to fly on, a rider set down, undone;");
    EbonyPegs x = Check.laid(TALE);
    Check.due("turn(2)", x.turn(2), 1);
    Check.stands("to the east, and the wind", x, 7, 5, 1, 1, 1, 2, 0, 0, 2);
    Check.due("peg(2, 3) behind a DOUBLING one", x.peg(2, 3), 18);
    Check.due("turn(2) again", x.turn(2), 0);
    Check.stands("on a roof", x, 7, 6, 0, 2, 2, 2, 1, 0, 2);
    Check.due("setDown()", x.setDown(), 1);
    Check.stands("set down", x, 7, 6, 1, 2, 2, 1, 0, 0, NONE);
    Check.due("peg(4, 3), one riding", x.peg(4, 3), 20);
    Check.due("peg(3, 3), to the south", x.peg(3, 3), 19);
    Check.due("peg(3, 4), to the south", x.peg(3, 4), 3);
    Check.due("flyOn()", x.flyOn(), 78);
    Check.stands("flown on", x, 8, 7, 1, 2, 3, 1, 0, 0, NONE);
    Check.due("undo()", x.undo(), 3);
    Check.stands("undone, the flying on", x, 7, 6, 1, 2, 2, 1, 0, 0, NONE);
    Check.due("undo()", x.undo(), 2);
    Check.stands("undone, the setting down", x, 7, 6, 0, 2, 2, 2, 1, 0, 2);
    Check.due("undo()", x.undo(), 1);
    Check.due("undo()", x.undo(), 0);
    Check.stands("undone, both turns", x, 5, 5, 2, 0, 0, 2, 0, 0, NONE);
    Check.due("undo()", x.undo(), NO);
  }

  private static void landedOrFallen() {
    Check.says("what", "where it is, how high, which way it goes, whether it has landed or fallen;");
    EbonyPegs x = Check.laid(TALE);
    Check.due("turn(4), two riding", x.turn(4), 0);
    Check.stands("fallen", x, 5, 6, 0, 2, 1, 2, 0, 1, 4);
    Check.due("turn(0)", x.turn(0), NO);
    Check.due("flyOn()", x.flyOn(), NO);
    Check.due("setDown()", x.setDown(), NO);
    x = Check.laid(TALE);
    Check.due("turn(1)", x.turn(1), 1);
    Check.stands("north, and the wind to the east", x, 6, 4, 1, 0, 1, 2, 0, 0, 1);
    Check.due("turn(1) again", x.turn(1), 0);
    Check.stands("landed", x, 6, 3, 0, 0, 2, 2, 1, 0, 1);
  }

  private static void wouldBe() {
    EbonyPegs x = Check.laid(TALE);
    Check.says("what", "the fewest turns to a roof by an hour,");
    int[][] ways = {{2, 1, 1, NONE, NONE, NONE, NONE}, {2, 2, 2, NONE, NONE, NONE, NONE}};
    for (int r = 0; r < 2; r++)
      for (int k = -1; k < 6; k++) Check.due("way(" + r + ", " + k + ")", x.way(r, k), ways[r][k + 1]);
    Check.says("what", "which pegs are safe next,");
    Check.due("safe()", x.safe(), 63 - 16);
    Check.says("what", "which undo each other,");
    Check.due("undoes(0)", x.undoes(0), 2);
    Check.due("undoes(1)", x.undoes(1), 1);
    Check.due("undoes(4)", x.undoes(4), 0);
    Check.due("undoes(5)", x.undoes(5), 0);
    Check.says("what", "which can be turned either way round,");
    Check.due("either(0, 5)", x.either(0, 5), 1);
    Check.due("either(0, 1), by the winds", x.either(0, 1), 0);
    Check.due("either(0, 3), by the courses", x.either(0, 3), 0);
    Check.due("either(0, 4), it falls", x.either(0, 4), 0);
    Check.says("what", "which roofs are near;");
    Check.due("near(1)", x.near(1), 0);
    Check.due("near(2)", x.near(2), 3);
    int[] drifts = {35, 15, 5, 5};
    for (int n = 1; n <= 4; n++) Check.due("drift(" + n + ")", x.drift(n), drifts[n - 1]);
  }

  private static void guessed() {
    EbonyPegs x = Check.laid(TALE);
    Check.says("what", "what an unknown peg does by flights that were seen,");
    Check.due("seen(3, 2, 17)", x.seen(3, 2, 17), 1);
    Check.due("may(3, 0)", x.may(3, 0), 4);
    Check.due("may(3, 1)", x.may(3, 1), 64);
    Check.due("seen(0, 0, 19)", x.seen(0, 0, 19), 2);
    Check.due("may(0, 0)", x.may(0, 0), 15);
    Check.due("may(0, 1)", x.may(0, 1), 64);
    Check.says("what", "the peg that turned it,");
    int[][] ends = {{5, 4, 3}, {6, 4, 1}, {7, 5, 1}, {6, 5, 3}, {5, 6, 0}, {5, 4, 4}};
    for (int p = 0; p < 6; p++) Check.due("which, peg " + p, x.which(ends[p][0], ends[p][1], ends[p][2]), 1 << p);
    Check.says("what", "how likely one lands,");
    Check.due("likely(1, 0)", x.likely(1, 0), 0);
    Check.due("likely(1, 1)", x.likely(1, 1), 1);
    Check.due("likely(2, 0)", x.likely(2, 0), 1);
    Check.due("likely(2, 1)", x.likely(2, 1), 18);
    Check.says("what", "flights by draws,");
    // by 0 x is 1, 6152, 12303; DRAW 0, 5185, 1287; the pegs 0, 1, 3
    int[] places = {345, 225, 326};
    for (int n = 1; n <= 3; n++) {
      Check.due("flight(0, " + n + ", 1)", x.flight(0, n, 1), places[n - 1]);
      Check.due("flight(0, " + n + ", 0)", x.flight(0, n, 0), NONE);
    }
    // by 42 x is 332599, 338750; DRAW 5257, 6091; twice the peg 1
    Check.due("flight(42, 1, 0)", x.flight(42, 1, 0), NONE);
    Check.due("flight(42, 2, 0)", x.flight(42, 2, 0), 2);
    Check.due("flight(42, 40, 0)", x.flight(42, 40, 0), 2);
    Check.due("flight(42, 40, 1)", x.flight(42, 40, 1), 36);
    // by 80 x is 633521, 639672; DRAW 4682, 6260; twice the peg 2
    Check.due("flight(80, 40, 0)", x.flight(80, 40, 0), 2);
    Check.due("flight(80, 40, 1)", x.flight(80, 40, 1), 67);
  }

  private static void kept() {
    EbonyPegs x = Check.laid(TALE);
    Check.says("what", "horses kept.");
    Check.due("keep()", x.keep(), 1);
    Check.due("turn(2)", x.turn(2), 1);
    Check.due("keep()", x.keep(), 2);
    Check.due("keep() once more", x.keep(), FULL);
    Check.due("turn(2)", x.turn(2), 0);
    Check.due("back()", x.back(), 1);
    Check.stands("as kept last", x, 7, 5, 1, 1, 1, 2, 0, 0, 2);
    Check.due("count(3)", x.count(3), 0);
    Check.due("back()", x.back(), 0);
    Check.stands("as kept first", x, 5, 5, 2, 0, 0, 2, 0, 0, NONE);
    Check.due("back() without any", x.back(), NO);
  }
}
