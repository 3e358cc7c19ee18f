/** Promises 24 and 25: likely, flight. */
public final class ChancesTest {
  private static final int BAD = EbonyPegs.BAD, NONE = EbonyPegs.NONE;

  public static void main(String[] args) {
    likely();
    likelyWhenDown();
    likelyRefused();
    flightDraws();
    flightEnds();
    flightRefused();
    Check.end();
  }

  private static void likely(EbonyPegs x, int n, int above, int below) {
    Check.due("likely(" + n + ", 0)", x.likely(n, 0), above);
    Check.due("likely(" + n + ", 1)", x.likely(n, 1), below);
  }

  private static void likely() {
    // peg 0 lands wherever it is turned at height 1 from 5, 5; peg 1 stays up over the same spot
    EbonyPegs x = Check.laid("p0,4,0;p0,5,0;r0,0;b0,0,1,0;");
    likely(x, 0, 0, 1);
    likely(x, 1, 1, 2);
    likely(x, 2, 3, 4);
    likely(x, 3, 7, 8);
    likely(x, 4, 15, 16);
    likely(x, 5, 31, 32);
    // what has fallen has not landed
    x = Check.laid("p0,4,0;p0,5,0;p0,4,1;r0,0;b0,0,1,0;");
    likely(x, 1, 1, 3);
    likely(x, 2, 4, 9);
    likely(x, 5, 121, 243);
    // lowest terms
    x = Check.laid("p0,4,0;p0,5,0;p0,4,0;p0,5,0;r0,0;b0,0,1,0;");
    likely(x, 1, 1, 2);
    likely(x, 2, 3, 4);
    x = Check.laid("p0,4,0;p0,4,0;r0,0;b0,0,1,0;");
    likely(x, 1, 1, 1);
    likely(x, 5, 1, 1);
    x = Check.laid("p0,4,0;p0,5,0;p0,5,0;p0,5,0;p0,5,0;p0,5,0;p0,5,0;r0,0;b0,0,1,0;");
    likely(x, 5, 16807 - 7776, 16807);
    x = Check.laid("p0,5,0;p0,5,0;p0,5,0;p0,5,0;p0,5,0;p0,5,0;p0,5,0;r0,0;b0,0,1,0;");
    likely(x, 5, 0, 1);
    // a DOUBLING one ahead is one of what is now
    x = Check.laid("p1,4,0;p0,5,0;r0,0;b0,0,3,0;");
    likely(x, 1, 0, 1);
    x.turn(0);
    likely(x, 1, 1, 2);
    x.flyOn();
    likely(x, 1, 0, 1);
    x = Check.laid("p3,6,0;t2;r0,0;b0,0,1,0;");
    likely(x, 1, 1, 1);
  }

  private static void likelyWhenDown() {
    EbonyPegs x = Check.laid("p0,4,0;p0,5,0;r0,0;b0,0,1,0;");
    x.turn(0);
    for (int n = 0; n <= 5; n++) likely(x, n, 1, 1);
    x = Check.laid("p0,4,0;p0,5,0;b0,0,1,0;");
    x.turn(0);
    for (int n = 0; n <= 5; n++) likely(x, n, 0, 1);
  }

  private static void likelyRefused() {
    EbonyPegs x = new EbonyPegs();
    int[][] bad = {{-1, 0}, {6, 0}, {0, -1}, {0, 2}, {Integer.MIN_VALUE, 1}, {Integer.MAX_VALUE, 1}, {5, Integer.MAX_VALUE}};
    for (int[] call : bad) Check.due("likely(" + call[0] + ", " + call[1] + ")", x.likely(call[0], call[1]), BAD);
  }

  /** DRAW as the document tells it, in numbers that have no bound. */
  private static int draw(int z, int turn) {
    java.math.BigInteger x = java.math.BigInteger.valueOf(7919).multiply(java.math.BigInteger.valueOf(z))
      .add(java.math.BigInteger.valueOf(6151L * turn + 1));
    return x.multiply(x).mod(java.math.BigInteger.valueOf(65521)).divide(java.math.BigInteger.valueOf(8)).intValueExact();
  }

  private static void flightDraws() {
    String pegs = "p0,6,0;p0,4,1;p1,6,2;p2,4,3;p3,7,1;p0,5,2;p2,6,2;";
    for (int many = 1; many <= 7; many++)
      for (int z : new int[] {0, 1, 2, 77, 4999, 9998, 9999})
        for (int n : new int[] {1, 2, 7, 39, 40}) {
          EbonyPegs x = Check.laid(pegs.substring(0, 7 * many) + "w2,1;w4,3;r5,5;r4,4;r6,6;b5,5,9,0;");
          x.flyOn();
          int lands = x.flight(z, n, 0);
          int where = x.flight(z, n, 1);
          int turns = 0;
          while (turns < n && x.now(2) > 0) {
            x.turn(draw(z, turns) % many);
            turns++;
          }
          Check.due("flight(" + z + ", " + n + ", 0) of " + many, lands, x.now(6) == 1 ? turns : NONE);
          Check.due("flight(" + z + ", " + n + ", 1) of " + many, where, 100 * x.now(2) + 10 * x.now(1) + x.now(0));
        }
  }

  private static void flightEnds() {
    EbonyPegs x = Check.laid("p0,4,0;r5,2;b5,5,3,0;");
    Check.due("flight(0, 2, 0): in the air", x.flight(0, 2, 0), NONE);
    Check.due("flight(0, 2, 1)", x.flight(0, 2, 1), 135);
    Check.due("flight(0, 3, 0): landed", x.flight(0, 3, 0), 3);
    Check.due("flight(0, 40, 0): landed", x.flight(0, 40, 0), 3);
    Check.due("flight(0, 40, 1)", x.flight(0, 40, 1), 25);
    x.turn(0);
    Check.due("flight(0, 40, 0): from now on", x.flight(0, 40, 0), 2);
    x.turn(0);
    x.turn(0);
    Check.due("flight(0, 1, 0) when landed", x.flight(0, 1, 0), 0);
    Check.due("flight(0, 1, 1) when landed", x.flight(0, 1, 1), 25);
    x = Check.laid("p0,4,0;b5,5,3,0;");
    Check.due("flight(0, 40, 0): fallen", x.flight(0, 40, 0), NONE);
    Check.due("flight(0, 40, 1): fallen", x.flight(0, 40, 1), 25);
    x = Check.laid("p0,4,0;b5,5,1,0;");
    x.turn(0);
    Check.due("flight(0, 1, 0) when fallen", x.flight(0, 1, 0), NONE);
    Check.due("flight(0, 1, 1) when fallen", x.flight(0, 1, 1), 45);
  }

  private static void flightRefused() {
    EbonyPegs x = new EbonyPegs();
    int[][] bad = {{-1, 1, 0}, {10000, 1, 0}, {0, 0, 0}, {0, 41, 0}, {0, -1, 0}, {0, 1, -1}, {0, 1, 2},
      {Integer.MIN_VALUE, 1, 0}, {0, Integer.MAX_VALUE, 0}, {0, 1, Integer.MAX_VALUE}};
    for (int[] call : bad) Check.due("a bad flight", x.flight(call[0], call[1], call[2]), BAD);
  }
}
