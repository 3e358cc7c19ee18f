/** Promises 14 to 19: safe, way, near, undoes, either, drift. */
public final class WouldBeTest {
  private static final int BAD = EbonyPegs.BAD, NO = EbonyPegs.NO, NONE = EbonyPegs.NONE;
  private static final String LANDED = "p0,4,1;p0,5,0;r6,5;r6,5;r1,1;b5,5,1,0;";
  private static final String FALLEN = "p0,4,1;p0,5,0;r1,1;b5,5,1,0;";

  public static void main(String[] args) {
    safe();
    wayLength();
    wayOrder();
    wayByDoubling();
    wayWhenDown();
    wayRefused();
    near();
    undoes();
    either();
    drift();
    nothingChanges();
    Check.end();
  }

  private static EbonyPegs down(String text) {
    EbonyPegs x = Check.laid(text);
    x.turn(0);
    return x;
  }

  private static void safe() {
    // peg 0 lands, 2 stays up, the others fall
    EbonyPegs x = Check.laid("p0,4,1;p0,4,0;p0,5,0;p0,0,2;p1,4,3;r6,5;b5,5,1,0;");
    Check.due("safe()", x.safe(), 1 | 4);
    Check.due("safe() when landed", down(LANDED).safe(), 0);
    Check.due("safe() when fallen", down(FALLEN).safe(), 0);
    x = Check.laid("p1,4,0;p3,6,0;t2;b5,5,3,0;");
    Check.due("safe()", x.safe(), 3);
    x.turn(0);
    Check.due("safe() behind a DOUBLING one", x.safe(), 2);
    x.turn(1);
    Check.due("safe() at height 1", x.safe(), 0);
  }

  private static void way(EbonyPegs x, int r, int... pegs) {
    Check.due("way(" + r + ", -1)", x.way(r, -1), pegs.length);
    for (int k = 0; k < 6; k++) Check.due("way(" + r + ", " + k + ")", x.way(r, k), k < pegs.length ? pegs[k] : NONE);
  }

  private static void noWay(EbonyPegs x, int r) {
    for (int k = -1; k < 6; k++) Check.due("way(" + r + ", " + k + ") of none", x.way(r, k), NONE);
  }

  private static void wayLength() {
    // one down each turn, one north each turn: n turns from height n
    for (int n = 1; n <= 6; n++) {
      EbonyPegs x = Check.laid("p0,4,0;r5," + (8 - n) + ";b5,8," + n + ",0;");
      int[] pegs = new int[n];
      way(x, 0, pegs);
      for (int near = 0; near < 6; near++) Check.due("near(" + near + ")", x.near(near), near >= n ? 1 : 0);
    }
    EbonyPegs x = Check.laid("p0,4,0;r5,1;b5,8,7,0;");
    noWay(x, 0);
    Check.due("near(5)", x.near(5), 0);
    x.turn(0);
    way(x, 0, 0, 0, 0, 0, 0, 0);
    Check.due("near(5) of six turns", x.near(5), 0);
    x.turn(0);
    Check.due("near(5) of five turns", x.near(5), 1);
    // none flies on: only pegs are turned
    noWay(Check.laid("p0,4,0;r5,3;b5,5,1,0;"), 0);
  }

  private static void wayOrder() {
    // all pegs alike: the lowest each time
    EbonyPegs x = Check.laid("p0,4,0;p0,4,0;p0,4,0;r5,3;b5,5,2,0;");
    way(x, 0, 0, 0);
    // the lower first peg wins, though the second one is higher then
    x = Check.laid("p0,5,0;p0,4,1;p0,4,0;r6,4;b5,5,1,0;");
    way(x, 0, 0, 1);
    x = Check.laid("p0,4,1;p0,5,0;p0,4,0;r6,4;b5,5,1,0;");
    way(x, 0, 1, 0);
    // a shorter way goes ahead of a lower peg
    x = Check.laid("p0,5,2;p0,4,2;r5,6;b5,5,1,0;");
    way(x, 0, 1);
    // seven pegs, the last one alone leads there
    x = Check.laid("p0,6,0;p0,6,1;p0,6,2;p0,6,3;p0,9,0;p0,9,1;p0,4,1;r6,6;b5,5,2,0;");
    way(x, 0, 6, 6);
    // two roofs at one place
    x = Check.laid("p0,4,0;r5,4;r1,1;r5,4;b5,5,1,0;");
    way(x, 0, 0);
    way(x, 2, 0);
    noWay(x, 1);
    Check.due("near(0)", x.near(0), 0);
    Check.due("near(1)", x.near(1), 5);
  }

  private static void wayByDoubling() {
    // the same place with and without a DOUBLING peg ahead leads to other ones
    EbonyPegs x = Check.laid("p0,4,0;p1,4,0;r5,3;b5,5,3,0;");
    way(x, 0, 1, 1);
    x = Check.laid("p0,4,0;p1,4,0;r5,6;b5,9,4,0;");
    way(x, 0, 0, 1, 1);
    x = Check.laid("p0,4,0;p1,4,0;r5,7;b5,9,3,0;");
    way(x, 0, 1, 1);
    x = Check.laid("p1,4,0;r5,7;b5,9,4,0;");
    noWay(x, 0);
    x.turn(0);
    Check.due("one DOUBLING turn", x.now(2), 3);
    noWay(x, 0);
    x.undo();
    x.flyOn();
    x.undo();
    x = Check.laid("p1,4,0;p0,5,0;r5,7;b5,9,2,0;");
    x.flyOn();
    noWay(x, 0);
    x.undo();
    x.turn(0);
    way(x, 0, 0);
    x = Check.laid("p3,6,0;t2;r5,7;b5,8,1,0;");
    way(x, 0, 0);
    noWay(Check.laid("p3,6,0;t1;r5,7;b5,8,1,0;"), 0);
  }

  private static void wayWhenDown() {
    EbonyPegs x = down(LANDED);
    way(x, 0);
    way(x, 1);
    noWay(x, 2);
    for (int n = 0; n < 6; n++) Check.due("near(" + n + ") when landed", x.near(n), 3);
    // the corner, going north
    x = down("p0,4,0;r0,0;b0,0,1,0;");
    way(x, 0);
    Check.due("near(0) in the corner", x.near(0), 1);
    x = down(FALLEN);
    noWay(x, 0);
    for (int n = 0; n < 6; n++) Check.due("near(" + n + ") when fallen", x.near(n), 0);
    // it does not fly on from a roof that it has landed on
    x = Check.laid("p0,4,0;p0,9,0;r5,4;r5,3;b5,5,1,0;");
    way(x, 0, 0);
    noWay(x, 1);
  }

  private static void wayRefused() {
    int[][] bad = {{-1, -1}, {3, -1}, {6, 0}, {0, -2}, {0, 6}, {Integer.MIN_VALUE, 0}, {0, Integer.MAX_VALUE}, {Integer.MAX_VALUE, 0}};
    EbonyPegs x = new EbonyPegs();
    for (int[] call : bad) Check.due("way(" + call[0] + ", " + call[1] + ")", x.way(call[0], call[1]), BAD);
    x = down(LANDED);
    for (int[] call : bad) Check.due("way(" + call[0] + ", " + call[1] + ") when landed", x.way(call[0], call[1]), BAD);
    // where there is no way, a number that is none is BAD all the same
    x = Check.laid("p0,5,0;r0,0;");
    Check.due("way(0, 6) of none", x.way(0, 6), BAD);
    Check.due("way(0, -2) of none", x.way(0, -2), BAD);
    Check.due("way(1, 0) of one roof", x.way(1, 0), BAD);
    x = Check.laid("p0,5,0;");
    Check.due("way(0, -1) of no roof", x.way(0, -1), BAD);
  }

  private static void near() {
    EbonyPegs x = Check.laid("p0,4,0;p0,4,1;p0,3,2;r5,4;r6,5;r5,6;r5,3;r4,4;r6,4;b5,5,2,0;");
    Check.due("near(0)", x.near(0), 0);
    Check.due("near(1)", x.near(1), 4);
    Check.due("near(2)", x.near(2), 4 | 8 | 32);
    int[] bad = {-1, 6, Integer.MIN_VALUE, Integer.MAX_VALUE};
    for (int n : bad) Check.due("near(" + n + ")", x.near(n), BAD);
    Check.due("near(5) of no roofs", Check.laid("p0,4,0;").near(5), 0);
  }

  private static void undoes() {
    // up and down, right and left
    EbonyPegs x = Check.laid("p0,6,1;p0,4,3;p0,4,0;p0,6,3;p2,4,3;b5,5,5,0;");
    Check.due("undoes(0)", x.undoes(0), 2 | 16);
    Check.due("undoes(1)", x.undoes(1), 1 | 16);
    Check.due("undoes(2)", x.undoes(2), 0);
    Check.due("undoes(3)", x.undoes(3), 0);
    // the place may be another one
    x = Check.laid("p0,5,0;b5,5,5,0;");
    Check.due("undoes(0) of what changes the place alone", x.undoes(0), 1);
    // none behind what has landed or fallen by its own
    x = Check.laid("p0,4,0;p0,6,0;r5,4;b5,5,1,0;");
    Check.due("undoes(0) of what lands", x.undoes(0), 0);
    Check.due("undoes(1)", x.undoes(1), 1);
    x = Check.laid("p0,4,0;p0,6,0;b5,5,1,0;");
    Check.due("undoes(0) of what falls", x.undoes(0), 0);
    // at the top what lifts is cut
    x = Check.laid("p0,9,0;p0,5,0;b5,5,9,0;");
    Check.due("undoes(0) at the top", x.undoes(0), 3);
    int[] bad = {-1, 2, 7, Integer.MIN_VALUE, Integer.MAX_VALUE};
    for (int p : bad) Check.due("undoes(" + p + ")", x.undoes(p), BAD);
    Check.due("undoes(1) when landed", down(LANDED).undoes(1), 0);
    Check.due("undoes(1) when fallen", down(FALLEN).undoes(1), 0);
    Check.due("undoes(2) when fallen", down(FALLEN).undoes(2), BAD);
  }

  private static void either() {
    EbonyPegs x = Check.laid("p0,6,0;p0,7,0;p0,5,1;p1,6,0;p1,7,0;b5,5,3,0;");
    Check.due("either(0, 1)", x.either(0, 1), 1);
    Check.due("either(1, 0)", x.either(1, 0), 1);
    Check.due("either(0, 2): other places", x.either(0, 2), 0);
    Check.due("either(3, 4): other heights", x.either(3, 4), 0);
    Check.due("either(2, 2)", x.either(2, 2), 1);
    // x, y and height alike, course not: a TURNED one in the corner
    x = Check.laid("p0,5,0;p0,6,0;w4,1;w3,3;b5,5,3,0;");
    Check.due("either(0, 1): other winds between", x.either(0, 1), 0);
    // both land
    x = Check.laid("p0,5,0;p0,5,0;p0,4,0;r5,3;b5,5,1,0;");
    Check.due("either(0, 1)", x.either(0, 1), 1);
    Check.due("either(0, 2): the second cannot be turned", x.either(0, 2), 0);
    Check.due("either(2, 0): the second cannot be turned", x.either(2, 0), 0);
    Check.due("either(2, 2): the second cannot be turned", x.either(2, 2), 0);
    x = Check.laid("p0,4,0;p0,4,0;p0,3,0;r5,3;b5,5,2,0;");
    Check.due("either(0, 1): both land", x.either(0, 1), 1);
    Check.due("either(0, 2): by one it cannot", x.either(0, 2), 0);
    x = Check.laid("p0,4,0;p0,4,0;b5,5,2,0;");
    Check.due("either(0, 1): both fall", x.either(0, 1), 1);
    int[][] bad = {{-1, 0}, {0, -1}, {2, 0}, {0, 2}, {Integer.MIN_VALUE, 0}, {0, Integer.MAX_VALUE}, {7, 7}};
    for (int[] call : bad) Check.due("either(" + call[0] + ", " + call[1] + ")", x.either(call[0], call[1]), BAD);
    Check.due("either(1, 1) when landed", down(LANDED).either(1, 1), 0);
    Check.due("either(1, 1) when fallen", down(FALLEN).either(1, 1), 0);
    Check.due("either(1, 2) when fallen", down(FALLEN).either(1, 2), BAD);
    eitherInTheCorner();
  }

  private static void eitherInTheCorner() {
    // place and course alike in the corner, height not
    EbonyPegs x = Check.laid("p0,9,0;p0,4,0;b0,0,8,0;");
    Check.due("either(0, 1): heights 8 and 9", x.either(0, 1), 0);
    // place and height alike, course not: TURNED goes left or right by the course
    x = Check.laid("p2,5,1;p0,5,2;w3,0;b5,0,3,0;");
    Check.due("either(0, 1): courses", x.either(0, 1), 0);
  }

  private static void drift() {
    EbonyPegs x = Check.laid("p0,5,0;w3,1;b2,8,3,0;");
    int[] spots = {73, 64, 55, 46, 37, 28, 19, 9};
    for (int n = 1; n <= 20; n++) Check.due("drift(" + n + ")", x.drift(n), spots[Math.min(n, 8) - 1]);
    int[] bad = {0, 21, -1, Integer.MIN_VALUE, Integer.MAX_VALUE};
    for (int n : bad) Check.due("drift(" + n + ")", x.drift(n), BAD);
    x = Check.laid("p0,5,0;b0,0,3,1;");
    Check.due("drift(5)", x.drift(5), 5);
    Check.due("drift(20)", x.drift(20), 9);
    for (String text : new String[] {LANDED, FALLEN}) {
      x = down(text);
      Check.due("drift(1) when down", x.drift(1), NO);
      Check.due("drift(20) when down", x.drift(20), NO);
      Check.due("drift(0) when down", x.drift(0), BAD);
      Check.due("drift(21) when down", x.drift(21), BAD);
    }
  }

  private static void nothingChanges() {
    EbonyPegs x = new EbonyPegs();
    x.turn(2);
    x.safe();
    x.way(0, -1);
    x.way(1, 3);
    x.near(5);
    x.undoes(0);
    x.either(0, 1);
    x.drift(20);
    x.likely(5, 0);
    x.flight(1, 40, 0);
    x.which(5, 5, 5);
    Check.stands("asked", x, 5, 4, 2, 0, 1, 1, 0, 0, 2);
    Check.due("count(3)", x.count(3), 1);
  }
}
