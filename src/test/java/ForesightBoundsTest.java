import java.util.function.Supplier;

/** Part 3 and promises 14 to 19, sentence by sentence: how far ahead is looked, and where there is nothing. */
public final class ForesightBoundsTest {
  private static final int BAD = EbonyPegs.BAD, NO = EbonyPegs.NO, NONE = EbonyPegs.NONE;
  private static final int[] FAR_OFF = {Integer.MIN_VALUE, Integer.MIN_VALUE + 1, Integer.MAX_VALUE - 1, Integer.MAX_VALUE};

  public static void main(String[] args) {
    fromNowOn();
    safe();
    safeWhenDown();
    wayFewest();
    wayFromCorners();
    wayByDoubling();
    wayOfPegsAlone();
    wayFirst();
    wayNone();
    wayAnswers();
    wayRefused();
    near();
    nearAnswers();
    nearRefused();
    undoes();
    undoesNone();
    undoesWhenDown();
    undoesRefused();
    either();
    eitherNoMore();
    eitherRefused();
    drift();
    driftAnswers();
    driftRefused();
    Check.end();
  }

  /** One down and one north by each turn: n turns from height n. */
  private static EbonyPegs steps(int turns) {
    return Check.laid("p0,4,0;r5," + (9 - turns) + ";b5,9," + turns + ",0;");
  }

  private static EbonyPegs landed() {
    EbonyPegs x = Check.laid("p0,4,1;p0,5,0;r6,5;r6,4;r6,5;b5,5,1,0;");
    x.turn(0);
    Check.due("landed", x.now(6), 1);
    return x;
  }

  private static EbonyPegs fallen() {
    EbonyPegs x = Check.laid("p0,4,1;p0,5,0;r6,4;r5,5;b5,5,1,0;");
    x.turn(0);
    Check.due("fallen", x.now(7), 1);
    return x;
  }

  private static void fromNowOn() {
    Check.says("3", "From now on.");
    // place, height, course, who ride and the turn ahead are those of now
    EbonyPegs x = Check.laid("p1,4,0;p0,5,2;p3,6,0;r5,6;r5,5;b5,9,3,0;t2;");
    Check.due("way(0, -1)", x.way(0, -1), 3);
    Check.due("safe()", x.safe(), 7);
    x.turn(0);
    Check.due("a DOUBLING one is ahead: way(0, -1)", x.way(0, -1), 2);
    Check.due("a DOUBLING one is ahead: safe()", x.safe(), 6);
    x.flyOn();
    Check.due("none is ahead: way(0, -1)", x.way(0, -1), NONE);
    Check.due("none is ahead: safe()", x.safe(), 7);
    Check.due("drift(1)", x.drift(1), 65);
    x.turn(1);
    Check.due("going south: drift(1)", x.drift(1), 95);
    for (Supplier<EbonyPegs> maker : makers()) {
      Whole.unchanged("safe()", maker, EbonyPegs::safe);
      for (int k = -1; k <= 5; k++) {
        int asked = k;
        Whole.unchanged("way(0, " + k + ")", maker, y -> y.way(0, asked));
      }
      for (int n = 0; n <= 5; n++) {
        int asked = n;
        Whole.unchanged("near(" + n + ")", maker, y -> y.near(asked));
      }
      Whole.unchanged("undoes(0)", maker, y -> y.undoes(0));
      Whole.unchanged("either(0, 0)", maker, y -> y.either(0, 0));
      Whole.unchanged("drift(20)", maker, y -> y.drift(20));
    }
  }

  private static java.util.List<Supplier<EbonyPegs>> makers() {
    return java.util.List.of(EbonyPegs::new, () -> steps(3), () -> steps(6), ForesightBoundsTest::landed, ForesightBoundsTest::fallen);
  }

  // ---- safe

  private static void safe() {
    Check.says("3", "SAFE: PEGS (bits) by whose TURN it would not have FALLEN.");
    // of seven alike, none or all; each bit by itself
    Check.due("safe() of seven that fall", Check.laid("p0,4,0;".repeat(7) + "b5,5,1,0;").safe(), 0);
    Check.due("safe() of seven that stay up", Check.laid("p0,4,0;".repeat(7) + "b5,5,2,0;").safe(), 127);
    Check.due("safe() of seven that land", Check.laid("p0,4,0;".repeat(7) + "r5,4;b5,5,1,0;").safe(), 127);
    for (int p = 0; p < 7; p++) {
      StringBuilder text = new StringBuilder();
      for (int i = 0; i < 7; i++) text.append(i == p ? "p0,5,0;" : "p0,4,0;");
      Check.due("safe(): peg " + p + " alone", Check.laid(text + "b5,5,1,0;").safe(), 1 << p);
      Check.due("safe(): peg " + p + " alone lands", Check.laid(text.toString().replace("p0,5,0;", "p0,4,1;") + "r6,5;b5,5,1,0;").safe(), 1 << p);
    }
    Check.due("safe() of one", Check.laid("p0,5,0;b5,5,1,0;").safe(), 1);
    // a TURNED one comes down where a PLAIN one goes up
    Check.due("safe() going south", Check.laid("p0,6,0;p2,6,0;p2,4,0;b5,5,1,2;").safe(), 5);
  }

  private static void safeWhenDown() {
    Check.says("safe", "SAFE, as bits (0: LANDED, FALLEN).");
    Whole.refused("safe() when landed", ForesightBoundsTest::landed, EbonyPegs::safe, 0);
    Whole.refused("safe() when fallen", ForesightBoundsTest::fallen, EbonyPegs::safe, 0);
    EbonyPegs x = landed();
    x.undo();
    Check.due("safe() behind undo()", x.safe(), 3);
  }

  // ---- way

  private static void way(String what, EbonyPegs x, int r, int... pegs) {
    Check.due(what + ": way(" + r + ", -1)", x.way(r, -1), pegs.length);
    for (int k = 0; k <= 5; k++) Check.due(what + ": way(" + r + ", " + k + ")", x.way(r, k), k < pegs.length ? pegs[k] : NONE);
  }

  private static void noWay(String what, EbonyPegs x, int r) {
    for (int k = -1; k <= 5; k++) Check.due(what + ": way(" + r + ", " + k + ")", x.way(r, k), NONE);
  }

  private static void wayFewest() {
    Check.says("3", "WAY to a ROOF: the fewest TURNS (0 to 6; of PEGS alone) by which it has LANDED there,");
    for (int turns = 1; turns <= 6; turns++) way("way of " + turns, steps(turns), 0, new int[turns]);
    for (int turns = 7; turns <= 9; turns++) noWay("way of " + turns, steps(turns), 0);
    EbonyPegs x = steps(7);
    x.turn(0);
    way("six of seven are left", x, 0, 0, 0, 0, 0, 0, 0);
    for (int left = 5; left >= 0; left--) {
      x.turn(0);
      way(left + " are left", x, 0, new int[left]);
    }
    Check.due("landed", x.now(6), 1);
    way("landed on 0 and 2", landed(), 0);
    way("landed on 0 and 2", landed(), 2);
    noWay("landed on 0 and 2", landed(), 1);
    noWay("fallen", fallen(), 0);
    noWay("fallen", fallen(), 1);
    // fewer turns go ahead of lower pegs
    way("one turn of the last peg", Check.laid("p0,5,2;p0,5,0;p0,4,2;r5,6;b5,5,1,0;"), 0, 2);
    // it has landed there, and does not fly over it
    noWay("none goes on from a roof", Check.laid("p0,4,0;p0,9,0;r5,4;r5,2;b5,5,1,0;"), 1);
  }

  private static void wayFromCorners() {
    Check.says("3", "by which it has LANDED there,");
    int[] east = {0, 1, 0, -1};
    int[] south = {-1, 0, 1, 0};
    for (int atX = 0; atX <= 9; atX += 9)
      for (int atY = 0; atY <= 9; atY += 9)
        for (int course = 0; course < 4; course++)
          for (int h = 1; h <= 9; h++) {
            // straight on, one down each turn, as far as the edge
            int toX = Math.max(0, Math.min(9, atX + h * east[course]));
            int toY = Math.max(0, Math.min(9, atY + h * south[course]));
            EbonyPegs x = Check.laid("p0,4,0;r" + toX + "," + toY + ";b" + atX + "," + atY + "," + h + "," + course + ";");
            if (h <= 6) way("from a corner", x, 0, new int[h]); else noWay("from a corner", x, 0);
            Check.due("near(5) from a corner", x.near(5), h <= 5 ? 1 : 0);
            Check.due("likely(5, 0) from a corner", x.likely(5, 0), h <= 5 ? 1 : 0);
          }
  }

  private static void wayByDoubling() {
    Check.says("3", "the fewest TURNS (0 to 6; of PEGS alone) by which it has LANDED there,");
    // -1, then -2 each: 7 high is four turns, wherever the DOUBLING peg stands among the others
    for (int at = 0; at < 7; at++) {
      StringBuilder text = new StringBuilder();
      for (int p = 0; p < 7; p++) text.append(p == at ? "p1,4,0;" : "p0,9,0;");
      EbonyPegs x = Check.laid(text + "r5,5;b5,9,7,0;");
      way("DOUBLING as peg " + at, x, 0, at, at, at, at);
      Check.due("near(3)", x.near(3), 0);
      Check.due("near(4)", x.near(4), 1);
      Check.due("likely(4, 0)", x.likely(4, 0), 1);
      Check.due("likely(4, 1)", x.likely(4, 1), 2401);
      // one is ahead already
      x.turn(at);
      way("behind DOUBLING as peg " + at, x, 0, at, at, at);
      x.undo();
      x.flyOn();
      noWay("an hour behind DOUBLING as peg " + at, x, 0);
    }
    // the same place with a DOUBLING one ahead and without: the later one is not lost for the first
    way("0 and then 1 1, not 1 0", Check.laid("p0,4,0;p1,4,0;r5,6;b5,9,4,0;"), 0, 0, 1, 1);
    way("HEAVY with two", Check.laid("p3,6,0;r5,7;t2;b5,9,2,0;"), 0, 0, 0);
    noWay("HEAVY with one", Check.laid("p3,6,0;r5,7;t1;b5,9,2,0;"), 0);
  }

  private static void wayOfPegsAlone() {
    Check.says("3", "of PEGS alone) by which it has LANDED there,");
    // with an hour between it would land there; without there is no way
    EbonyPegs x = Check.laid("p0,4,0;r5,3;b5,5,1,0;");
    noWay("an hour is no turn", x, 0);
    x.flyOn();
    way("behind an hour", x, 0, 0);
    // nor is a rider set down on it
    x = Check.laid("p0,4,1;p0,5,0;r6,5;r6,6;t2;b5,5,1,0;");
    x.turn(0);
    noWay("setting down is no turn", x, 1);
    x.setDown();
    way("behind setting down", x, 1, 0);
  }

  private static void wayFirst() {
    Check.says("3", "of several the first (by the first PEG, the lowest, ..):");
    way("all alike", Check.laid("p0,4,0;".repeat(7) + "r5,1;b5,7,6,0;"), 0, 0, 0, 0, 0, 0, 0);
    way("0 1 ahead of 1 0", Check.laid("p0,5,0;p0,4,0;r5,3;b5,5,1,0;"), 0, 0, 1);
    way("1 0 alone", Check.laid("p0,4,1;p0,5,0;r6,4;b5,5,1,0;"), 0, 1, 0);
    way("0 2 ahead of 1 1 and 2 0", Check.laid("p0,5,0;p0,4,0;p0,3,0;r5,3;b5,5,2,0;"), 0, 0, 2);
    // the same place by two ways: the first is told, whichever way goes on from there
    way("0 1 2 ahead of 1 0 2", Check.laid("p0,5,0;p0,4,0;p0,3,1;r6,3;b5,5,3,0;"), 0, 0, 1, 2);
    way("the last peg alone", Check.laid("p0,6,0;p0,6,1;p0,6,2;p0,6,3;p0,9,0;p0,9,1;p0,4,1;r6,6;b5,5,2,0;"), 0, 6, 6);
    // six turns of the seventh peg, where none of the others comes down
    way("six of the last peg", Check.laid("p0,6,0;".repeat(6) + "p0,4,0;r5,1;b5,7,6,0;"), 0, 6, 6, 6, 6, 6, 6);
  }

  private static void wayNone() {
    Check.says("3", "how many; the k-th; none.");
    Check.says("way", "NONE;");
    noWay("no peg comes down", Check.laid("p0,5,0;p0,6,1;r5,5;r5,4;"), 0);
    noWay("no peg comes down", Check.laid("p0,5,0;p0,6,1;r5,5;r5,4;"), 1);
    noWay("too far off", Check.laid("p0,4,0;p0,5,0;r5,0;b5,9,1,0;"), 0);
    way("as far as can be", Check.laid("p0,4,0;p0,5,0;r5,3;b5,9,1,0;"), 0, 1, 1, 1, 1, 1, 0);
    noWay("one farther than can be", Check.laid("p0,4,0;p0,5,0;r5,2;b5,9,1,0;"), 0);
  }

  private static void wayAnswers() {
    Check.says("way", "WAY: how many (k = -1), the k-th (0 to 5; NONE: there are not so many).");
    EbonyPegs x = Check.laid("p0,6,0;p0,4,1;p0,4,0;r6,4;b5,5,2,0;");
    Check.due("way(0, -1)", x.way(0, -1), 2);
    Check.due("way(0, 0)", x.way(0, 0), 2);
    Check.due("way(0, 1)", x.way(0, 1), 1);
    for (int k = 2; k <= 5; k++) Check.due("way(0, " + k + "), of two", x.way(0, k), NONE);
    Check.due("way(0, 5), of six", steps(6).way(0, 5), 0);
    Check.due("way(0, 5), of five", steps(5).way(0, 5), NONE);
    Check.due("way(0, 4), of five", steps(5).way(0, 4), 0);
    Check.due("way(0, -1) when landed there", landed().way(0, -1), 0);
    Check.due("way(0, 0) when landed there", landed().way(0, 0), NONE);
  }

  private static void wayRefused() {
    Check.says("way", "BAD.");
    for (Supplier<EbonyPegs> maker : makers()) {
      int roofs = maker.get().count(1);
      for (int k : new int[] {-2, 6, -3, 7, FAR_OFF[0], FAR_OFF[3]})
        for (int r = 0; r < roofs; r++) {
          int roof = r;
          Whole.refused("way(" + r + ", " + k + ")", maker, x -> x.way(roof, k), BAD);
        }
      for (int r : new int[] {-1, roofs, 6, FAR_OFF[0], FAR_OFF[3]})
        for (int k = -2; k <= 6; k++) {
          int asked = k;
          Whole.refused("way(" + r + ", " + k + ")", maker, x -> x.way(r, asked), BAD);
        }
    }
    Check.due("way(0, -1) without roofs", Check.laid("p0,4,0;").way(0, -1), BAD);
    StringBuilder six = new StringBuilder("p0,4,0;b5,5,1,0;");
    for (int i = 0; i < 6; i++) six.append("r5,4;");
    Check.due("way(5, -1) of six roofs", Check.laid(six.toString()).way(5, -1), 1);
    Check.due("way(6, -1) of six roofs", Check.laid(six.toString()).way(6, -1), BAD);
  }

  // ---- near

  private static void near() {
    Check.says("3", "NEAR for n (0 to 5): ROOFS (bits) to which there is a WAY of n TURNS or fewer.");
    for (int turns = 1; turns <= 7; turns++)
      for (int n = 0; n <= 5; n++) Check.due("near(" + n + ") of a way of " + turns, steps(turns).near(n), n >= turns ? 1 : 0);
    // roof i by i + 1 turns, the sixth by six
    EbonyPegs x = Check.laid("p0,5,0;p0,4,0;r5,8;r5,7;r5,6;r5,5;r5,4;r5,3;b5,9,1,0;");
    for (int n = 0; n <= 5; n++) Check.due("near(" + n + ")", x.near(n), (1 << n) - 1);
    for (int r = 0; r < 6; r++) Check.due("way(" + r + ", -1)", x.way(r, -1), r + 1);
    for (int n = 0; n <= 5; n++) {
      Check.due("near(" + n + ") when landed", landed().near(n), 5);
      Check.due("near(" + n + ") when fallen", fallen().near(n), 0);
    }
  }

  private static void nearAnswers() {
    Check.says("near", "NEAR, as bits.");
    Check.due("near(5) without roofs", Check.laid("p0,4,0;").near(5), 0);
    EbonyPegs x = Check.laid("p0,4,0;" + "r5,4;".repeat(6) + "b5,5,1,0;");
    Check.due("near(0) of six roofs", x.near(0), 0);
    Check.due("near(1) of six roofs", x.near(1), 63);
    for (int r = 0; r < 6; r++) {
      StringBuilder text = new StringBuilder("p0,4,0;b5,5,1,0;");
      for (int i = 0; i < 6; i++) text.append(i == r ? "r5,4;" : "r4,5;");
      Check.due("near(1): roof " + r + " alone", Check.laid(text.toString()).near(1), 1 << r);
    }
  }

  private static void nearRefused() {
    Check.says("near", "BAD.");
    for (Supplier<EbonyPegs> maker : makers())
      for (int n : new int[] {-1, 6, -2, 7, FAR_OFF[0], FAR_OFF[3]}) Whole.refused("near(" + n + ")", maker, x -> x.near(n), BAD);
  }

  // ---- undoes

  private static void undoes() {
    Check.says("3", "UNDOES for a PEG: PEGS (bits) by whose TURN behind its own HEIGHT and COURSE are as now");
    for (int h = 1; h <= 9; h++)
      for (int u = 0; u <= 9; u++) {
        // peg 0, and six that could undo it, on both sides of what does
        int[] us = {4, 5, 6, 7, 8, 9};
        StringBuilder text = new StringBuilder("p0," + u + ",3;");
        for (int up : us) text.append("p0,").append(up).append(",1;");
        EbonyPegs x = Check.laid(text + "b5,5," + h + ",2;");
        int own = Math.max(0, Math.min(9, h + u - 5));
        int want = 0;
        for (int q = 1; q <= 6; q++) if (own > 0 && Math.min(9, own + us[q - 1] - 5) == h) want |= 1 << q;
        Check.due("undoes(0) at " + h + " of U " + u, x.undoes(0), want);
      }
    // height alone or course alone is not enough; the place may be another one
    EbonyPegs x = Check.laid("p0,6,1;p0,4,3;p0,4,2;p0,5,3;b5,5,5,3;");
    Check.due("undoes(0)", x.undoes(0), 2);
    Check.due("undoes(1)", x.undoes(1), 1);
    // a DOUBLING one is doubled behind the first
    x = Check.laid("p1,7,0;p1,4,0;p1,3,0;b5,5,3,0;");
    Check.due("undoes(0) of DOUBLING ones", x.undoes(0), 2);
    // one peg may undo itself
    Check.due("undoes(0) of what does nothing", Check.laid("p0,5,0;").undoes(0), 1);
    Check.due("undoes(0) of half a turn", Check.laid("p0,5,2;").undoes(0), 1);
  }

  private static void undoesNone() {
    Check.says("3", "(none, if it has LANDED or FALLEN by its own).");
    // 0 lands or falls by its own, and peg 1 would lift it again
    EbonyPegs x = Check.laid("p0,4,0;p0,6,0;p0,3,0;r5,4;b5,5,1,0;");
    Check.due("undoes(0) of what lands", x.undoes(0), 0);
    Check.due("undoes(1)", x.undoes(1), 1);
    x = Check.laid("p0,4,0;p0,6,0;b5,5,1,0;");
    Check.due("undoes(0) of what falls", x.undoes(0), 0);
    x = Check.laid("p0,4,0;p0,6,0;b5,5,2,0;");
    Check.due("undoes(0) of what stays 1 high", x.undoes(0), 2);
  }

  private static void undoesWhenDown() {
    Check.says("undoes", "UNDOES, as bits (0: LANDED, FALLEN).");
    for (int p = 0; p < 2; p++) {
      int peg = p;
      Whole.refused("undoes(" + p + ") when landed", ForesightBoundsTest::landed, x -> x.undoes(peg), 0);
      Whole.refused("undoes(" + p + ") when fallen", ForesightBoundsTest::fallen, x -> x.undoes(peg), 0);
    }
    Check.due("undoes(6) of seven", Check.laid("p0,5,0;".repeat(7)).undoes(6), 127);
  }

  private static void undoesRefused() {
    Check.says("undoes", "BAD.");
    for (Supplier<EbonyPegs> maker : makers()) {
      int pegs = maker.get().count(0);
      Check.holds("undoes(" + (pegs - 1) + ") is not BAD", maker.get().undoes(pegs - 1) >= 0);
      for (int p : new int[] {-1, pegs, 7, FAR_OFF[0], FAR_OFF[3]}) Whole.refused("undoes(" + p + ")", maker, x -> x.undoes(p), BAD);
    }
  }

  // ---- either

  private static void alike(String text, boolean so) {
    EbonyPegs x = Check.laid(text);
    Check.due("either(0, 1) of " + text, x.either(0, 1), so ? 1 : 0);
    Check.due("either(1, 0) of " + text, x.either(1, 0), so ? 1 : 0);
  }

  private static void either() {
    Check.says("3", "EITHER for two PEGS: 1, if X, Y, HEIGHT, COURSE, LANDED, FALLEN are alike by the one TURNED ahead of the other and by the other ahead of the one; else 0");
    alike("p0,6,0;p0,7,0;b5,5,3,0;", true);
    // X alone: blown east at 4, where the one leads first and the other does not
    alike("p0,6,0;p0,7,0;w4,1;b5,5,3,0;", false);
    alike("p0,6,0;p0,7,0;w4,1;b9,5,3,0;", true);
    // Y alone
    alike("p0,6,0;p0,7,0;w4,0;b5,5,3,0;", false);
    // height alone: cut at the top by one row only
    alike("p0,9,0;p0,4,0;b0,0,8,0;", false);
    alike("p0,9,0;p0,4,0;b0,0,6,0;", false);
    alike("p0,9,0;p0,4,0;b0,0,5,0;", true);
    // course alone: in the corner a TURNED one goes right or left by the course it meets
    alike("p2,5,1;p0,5,2;w3,0;b5,0,3,0;", false);
    // both land, both fall
    alike("p0,4,0;p0,4,0;r5,3;b5,5,2,0;", true);
    alike("p0,4,0;p0,4,0;b5,5,2,0;", true);
    // one lands, the other falls: at other places, so at no place both
    alike("p0,4,0;p0,4,1;r6,4;b5,5,2,0;", false);
  }

  private static void eitherNoMore() {
    Check.says("3", "(so, too, if the second one could not be TURNED any more, by either).");
    // down by the first: by the one, by the other, by both
    alike("p0,4,0;p0,5,0;r5,4;r5,3;b5,5,1,0;", false);
    alike("p0,5,0;p0,4,0;r5,4;r5,3;b5,5,1,0;", false);
    alike("p0,4,0;p0,4,0;r5,4;r5,3;b5,5,1,0;", false);
    alike("p0,4,0;p0,4,0;b5,5,1,0;", false);
    // in the corner all else would be alike
    alike("p0,4,0;p0,3,0;r0,0;b0,0,2,0;", false);
    alike("p0,4,0;p0,4,0;r0,0;b0,0,2,0;", true);
    for (int p = 0; p < 2; p++)
      for (int q = 0; q < 2; q++) {
        int first = p;
        int second = q;
        Whole.refused("either(" + p + ", " + q + ") when landed", ForesightBoundsTest::landed, x -> x.either(first, second), 0);
        Whole.refused("either(" + p + ", " + q + ") when fallen", ForesightBoundsTest::fallen, x -> x.either(first, second), 0);
      }
  }

  private static void eitherRefused() {
    Check.says("either", "EITHER. BAD (p and q may be one).");
    EbonyPegs seven = Check.laid("p0,5,0;".repeat(7));
    for (int p = 0; p < 7; p++) for (int q = 0; q < 7; q++) Check.due("either(" + p + ", " + q + ") of seven", seven.either(p, q), 1);
    Check.due("either(0, 0) of one that falls by the second turn", Check.laid("p0,4,1;b5,5,2,0;").either(0, 0), 1);
    Check.due("either(0, 0) of one that falls by the first turn", Check.laid("p0,4,1;b5,5,1,0;").either(0, 0), 0);
    for (Supplier<EbonyPegs> maker : makers()) {
      int pegs = maker.get().count(0);
      for (int bad : new int[] {-1, pegs, 7, FAR_OFF[0], FAR_OFF[3]}) {
        for (int good : new int[] {0, pegs - 1}) {
          Whole.refused("either(" + bad + ", " + good + ")", maker, x -> x.either(bad, good), BAD);
          Whole.refused("either(" + good + ", " + bad + ")", maker, x -> x.either(good, bad), BAD);
        }
        Whole.refused("either(" + bad + ", " + bad + ")", maker, x -> x.either(bad, bad), BAD);
      }
    }
  }

  // ---- drift

  private static void drift() {
    Check.says("3", "DRIFT for n (1 to 20) HOURS of FLYING ON: where it is, 10 times Y and X.");
    // an edge and a wind back from it: where it is goes on changing for longer than the field is wide
    String[] texts = {"p0,5,0;b0,5,3,1;", "p0,5,0;w3,1;b0,9,3,0;", "p0,5,0;w3,3;b9,9,3,0;", "p0,5,0;w3,2;b5,5,3,0;", "p0,5,0;w3,0;b5,9,3,1;"};
    for (String text : texts) {
      EbonyPegs still = Check.laid(text);
      EbonyPegs flown = Check.laid(text);
      for (int n = 1; n <= 20; n++) Check.due("drift(" + n + ") of " + text, still.drift(n), flown.flyOn());
    }
  }

  private static void driftAnswers() {
    Check.says("drift", "DRIFT.");
    EbonyPegs x = Check.laid("p0,5,0;b0,0,1,1;");
    for (int n = 1; n <= 20; n++) Check.due("drift(" + n + ")", x.drift(n), Math.min(9, n));
    x = Check.laid("p0,5,0;b9,0,9,2;");
    for (int n = 1; n <= 20; n++) Check.due("drift(" + n + ")", x.drift(n), 10 * Math.min(9, n) + 9);
  }

  private static void driftRefused() {
    Check.says("drift", "BAD; NO: LANDED, FALLEN.");
    for (Supplier<EbonyPegs> maker : makers())
      for (int n : new int[] {0, 21, -1, 22, FAR_OFF[0], FAR_OFF[3]}) Whole.refused("drift(" + n + ")", maker, x -> x.drift(n), BAD);
    for (int n = 1; n <= 20; n++) {
      int hours = n;
      Whole.refused("drift(" + n + ") when landed", ForesightBoundsTest::landed, x -> x.drift(hours), NO);
      Whole.refused("drift(" + n + ") when fallen", ForesightBoundsTest::fallen, x -> x.drift(hours), NO);
    }
  }
}
