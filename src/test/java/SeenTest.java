/** Promises 20 to 23: seen, forget, may, which. */
public final class SeenTest {
  private static final int BAD = EbonyPegs.BAD, FULL = EbonyPegs.FULL;

  public static void main(String[] args) {
    seen();
    forget();
    mayKinds();
    mayLifts();
    maySeveral();
    mayRefused();
    which();
    whichFromTheBeginning();
    Check.end();
  }

  private static void seen() {
    EbonyPegs x = Check.laid("p0,5,0;p0,5,0;");
    int[][] bad = {{-1, 0, 18}, {2, 0, 18}, {0, -1, 18}, {0, 4, 18}, {0, 0, -1}, {0, 0, 37},
      {Integer.MIN_VALUE, 0, 0}, {0, Integer.MAX_VALUE, 0}, {0, 0, Integer.MAX_VALUE}};
    for (int[] call : bad) Check.due("a bad seen", x.seen(call[0], call[1], call[2]), BAD);
    Check.due("count(2) behind bad ones", x.count(2), 0);
    int[][] good = {{0, 0, 0}, {1, 3, 36}, {0, 0, 0}, {0, 1, 18}, {1, 2, 17}, {1, 0, 1}};
    for (int i = 0; i < 6; i++) Check.due("seen " + i, x.seen(good[i][0], good[i][1], good[i][2]), i + 1);
    Check.due("the seventh", x.seen(0, 0, 18), FULL);
    for (int[] call : bad) Check.due("a bad seventh", x.seen(call[0], call[1], call[2]), BAD);
    Check.due("count(2)", x.count(2), 6);
    x = Check.laid("p0,4,0;b5,5,1,0;");
    x.turn(0);
    Check.due("seen when fallen", x.seen(0, 0, 17), 1);
  }

  private static void forget() {
    EbonyPegs x = Check.laid("p0,5,0;");
    Check.due("forget() of nothing", x.forget(), 0);
    for (int i = 0; i < 6; i++) x.seen(0, 0, 0);
    Check.due("may(0, 0)", x.may(0, 0), 0);
    Check.due("forget()", x.forget(), 6);
    Check.due("count(2)", x.count(2), 0);
    Check.due("may(0, 0) behind forget", x.may(0, 0), 15);
    Check.due("forget() again", x.forget(), 0);
    Check.due("seen behind forget", x.seen(0, 0, 18), 1);
    Check.due("may(0, 1) behind forget", x.may(0, 1), 1 << 5);
  }

  private static void mayKinds() {
    // a peg of U 7 lifts by 2, a TURNED one by 2 less at south and west
    for (int kind = 0; kind < 4; kind++)
      for (int c = 0; c < 4; c++)
        for (int v = 0; v <= 36; v++) {
          EbonyPegs x = Check.laid("p" + kind + ",7,1;t2;");
          x.seen(0, c, v);
          int want = (v == 20 ? 1 | 2 | 8 : 0) | (v == (c < 2 ? 20 : 16) ? 4 : 0);
          Check.due("may(0, 0) of kind " + kind + ", c " + c + ", v " + v, x.may(0, 0), want);
        }
  }

  private static void mayLifts() {
    for (int kind = 0; kind < 4; kind++)
      for (int c = 0; c < 4; c++)
        for (int v = 0; v <= 36; v++) {
          // neither who ride nor a DOUBLING one ahead changes what was seen
          EbonyPegs x = Check.laid("p" + kind + ",7,1;p1,5,0;t2;b5,5,5,3;");
          x.turn(1);
          x.seen(0, c, v);
          int lift = kind == 2 && c > 1 ? 18 - v : v - 18;
          int want = lift >= -5 && lift <= 4 ? 1 << (lift + 5) : 0;
          Check.due("may(0, 1) of kind " + kind + ", c " + c + ", v " + v, x.may(0, 1), want);
          Check.due("may(1, 1), of which nothing was seen", x.may(1, 1), 1023);
        }
  }

  private static void maySeveral() {
    EbonyPegs x = Check.laid("p2,6,0;p0,5,0;");
    x.seen(0, 0, 19);
    Check.due("may(0, 0)", x.may(0, 0), 15);
    x.seen(0, 3, 17);
    Check.due("may(0, 0)", x.may(0, 0), 4);
    Check.due("may(0, 1)", x.may(0, 1), 1 << 6);
    Check.due("may(1, 0)", x.may(1, 0), 15);
    Check.due("may(1, 1)", x.may(1, 1), 1023);
    x.seen(1, 1, 18);
    Check.due("may(1, 0): lifts by nothing", x.may(1, 0), 15);
    x.seen(0, 2, 16);
    Check.due("may(0, 0): not so", x.may(0, 0), 0);
    Check.due("may(0, 1): not so", x.may(0, 1), 0);
    Check.due("may(1, 1)", x.may(1, 1), 1 << 5);
    // the sixth one counts as the first does
    x.seen(1, 1, 18);
    x.seen(1, 1, 19);
    Check.due("may(1, 1): not so", x.may(1, 1), 0);
  }

  private static void mayRefused() {
    EbonyPegs x = Check.laid("p0,5,0;p0,5,0;");
    int[][] bad = {{-1, 0}, {2, 0}, {0, -1}, {0, 2}, {Integer.MAX_VALUE, 1}, {1, Integer.MIN_VALUE}};
    for (int[] call : bad) Check.due("may(" + call[0] + ", " + call[1] + ")", x.may(call[0], call[1]), BAD);
  }

  private static void which() {
    EbonyPegs x = Check.laid("p0,5,0;p1,5,0;p0,5,1;p0,2,0;p0,4,0;w3,1;r5,4;b5,5,3,0;");
    Check.due("which(6, 4, 3)", x.which(6, 4, 3), 3);
    Check.due("which(7, 5, 3)", x.which(7, 5, 3), 4);
    Check.due("which(5, 4, 0)", x.which(5, 4, 0), 8);
    Check.due("which(5, 4, 2)", x.which(5, 4, 2), 16);
    Check.due("which(5, 4, 1): another height", x.which(5, 4, 1), 0);
    Check.due("which(5, 5, 2): another y", x.which(5, 5, 2), 0);
    Check.due("which(4, 4, 2): another x", x.which(4, 4, 2), 0);
    Check.due("which(0, 0, 0)", x.which(0, 0, 0), 0);
    Check.due("which(9, 9, 9)", x.which(9, 9, 9), 0);
    int[][] bad = {{-1, 0, 0}, {10, 0, 0}, {0, -1, 0}, {0, 10, 0}, {0, 0, -1}, {0, 0, 10},
      {Integer.MIN_VALUE, 0, 0}, {0, Integer.MAX_VALUE, 0}, {0, 0, Integer.MAX_VALUE}};
    for (int[] call : bad) Check.due("a bad which", x.which(call[0], call[1], call[2]), BAD);
  }

  private static void whichFromTheBeginning() {
    // who rides, the turn ahead and the place are those of the beginning, whatever has been since
    EbonyPegs x = Check.laid("p1,4,1;p3,9,0;r6,5;t2;b5,5,1,0;");
    x.turn(0);
    x.setDown();
    x.turn(1);
    x.turn(0);
    Check.due("one rides", x.now(5), 1);
    Check.due("which(5, 4, 3) with two", x.which(5, 4, 3), 2);
    Check.due("which(5, 4, 5) with one", x.which(5, 4, 5), 0);
    Check.due("which(6, 5, 0)", x.which(6, 5, 0), 1);
    x = Check.laid("p1,6,0;b5,5,3,0;");
    x.turn(0);
    Check.due("which(5, 4, 4): none ahead", x.which(5, 4, 4), 1);
    Check.due("which(5, 4, 5): doubled", x.which(5, 4, 5), 0);
    x = Check.laid("p0,4,0;b5,5,1,0;");
    x.turn(0);
    Check.due("which(5, 4, 0) when fallen", x.which(5, 4, 0), 1);
  }
}
