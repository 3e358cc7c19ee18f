import java.math.BigInteger;
import java.util.List;
import java.util.function.Supplier;

/** Part 4 and promises 20 to 28, sentence by sentence: what was seen, chances, what is kept, counts. */
public final class GuessBoundsTest {
  private static final int BAD = EbonyPegs.BAD, NO = EbonyPegs.NO, FULL = EbonyPegs.FULL, NONE = EbonyPegs.NONE;
  private static final int LEAST = Integer.MIN_VALUE, MOST = Integer.MAX_VALUE;

  public static void main(String[] args) {
    mostSeen();
    seenAnswers();
    seenRefused();
    forget();
    mayBe();
    lifts();
    mayRefused();
    which();
    whichAsTold();
    whichRefused();
    likely();
    likelyWhenDown();
    lowestTerms();
    likelyRefused();
    flightFromNowOn();
    flightDraws();
    flightLands();
    flightNone();
    flightWhere();
    flightRefused();
    keptAll();
    mostKept();
    keepRefused();
    back();
    backUndoes();
    backRefused();
    counts();
    countRefused();
    inUse();
    Check.end();
  }

  private static EbonyPegs landed() {
    EbonyPegs x = Check.laid("p1,4,1;p3,9,0;r6,5;t2;b5,5,1,0;");
    x.turn(0);
    Check.due("landed", x.now(6), 1);
    return x;
  }

  private static EbonyPegs fallen() {
    EbonyPegs x = Check.laid("p1,4,1;p3,9,0;r6,4;t2;b5,5,1,0;");
    x.turn(0);
    Check.due("fallen", x.now(7), 1);
    return x;
  }

  /** Nothing more can be seen, kept or held for undoing. */
  private static EbonyPegs full() {
    EbonyPegs x = Check.laid("p1,4,1;p3,9,0;r6,5;t2;b5,5,8,0;");
    for (int i = 0; i < 6; i++) x.seen(i % 2, i % 4, 17 + i % 3);
    for (int i = 0; i < 9; i++) x.flyOn();
    x.keep();
    x.turn(0);
    x.keep();
    Check.counts("full", x, 2, 1, 6, 8, 2);
    return x;
  }

  private static List<Supplier<EbonyPegs>> makers() {
    return List.of(EbonyPegs::new, GuessBoundsTest::landed, GuessBoundsTest::fallen, GuessBoundsTest::full);
  }

  // ---- seen

  private static void mostSeen() {
    Check.says("4", "SEEN (6 at most) is that a PEG, the COURSE being c (0 to 3), no TURN being ahead, one riding, lifted by v less 18 (v 0 to 36).");
    for (int c = 0; c <= 3; c++)
      for (int v = 0; v <= 36; v++) {
        EbonyPegs x = Check.laid("p0,5,0;");
        Check.due("seen(0, " + c + ", " + v + ")", x.seen(0, c, v), 1);
        int u = v - 18 + 5;
        Check.due("may(0, 1) by " + c + ", " + v, x.may(0, 1), u >= 0 && u <= 9 ? 1 << u : 0);
      }
    EbonyPegs x = new EbonyPegs();
    for (int i = 1; i <= 6; i++) {
      Check.due("seen as number " + i, x.seen(4, 3, 36), i);
      Check.due("count(2)", x.count(2), i);
    }
    Check.due("seen as the seventh", x.seen(0, 0, 0), FULL);
    Check.due("count(2)", x.count(2), 6);
    x.forget();
    Check.due("seen behind forget()", x.seen(0, 0, 0), 1);
  }

  private static void seenAnswers() {
    Check.says("seen", "SEEN: how many.");
    // what is seen is told, whether it can be so or not, and when it is down, too
    Check.due("seen(0, 0, 0) when landed", landed().seen(0, 0, 0), 1);
    Check.due("seen(1, 3, 36) when fallen", fallen().seen(1, 3, 36), 1);
    EbonyPegs x = new EbonyPegs();
    Check.due("seen", x.seen(2, 1, 17), 1);
    Check.due("the same seen again", x.seen(2, 1, 17), 2);
    Check.due("another seen of it", x.seen(2, 1, 20), 3);
    Check.due("seen of the last peg", x.seen(4, 1, 20), 4);
  }

  private static void seenRefused() {
    Check.says("seen", "BAD; FULL.");
    for (Supplier<EbonyPegs> maker : makers()) {
      int pegs = maker.get().count(0);
      int[][] bad = {{-1, 0, 18}, {pegs, 0, 18}, {7, 0, 18}, {0, -1, 18}, {0, 4, 18}, {0, 0, -1}, {0, 0, 37},
        {LEAST, 0, 0}, {MOST, 0, 0}, {0, LEAST, 0}, {0, MOST, 0}, {0, 0, LEAST}, {0, 0, MOST}, {-1, 4, 37}};
      for (int[] n : bad) Whole.refused("seen(" + n[0] + ", " + n[1] + ", " + n[2] + ")", maker, x -> x.seen(n[0], n[1], n[2]), BAD);
    }
    int[][] good = {{0, 0, 0}, {1, 3, 36}, {0, 3, 18}};
    for (int[] n : good) Whole.refused("seen as the seventh", GuessBoundsTest::full, x -> x.seen(n[0], n[1], n[2]), FULL);
  }

  private static void forget() {
    Check.says("forget", "Nothing is SEEN: how many were.");
    for (int many = 0; many <= 6; many++) {
      EbonyPegs x = new EbonyPegs();
      for (int i = 0; i < many; i++) x.seen(0, 0, 0);
      Check.due("forget() of " + many, x.forget(), many);
      Check.due("count(2)", x.count(2), 0);
      Check.due("may(0, 0)", x.may(0, 0), 15);
      Check.due("forget() again", x.forget(), 0);
    }
    EbonyPegs x = full();
    x.forget();
    Check.counts("forgotten, all else stands", x, 2, 1, 0, 8, 2);
  }

  // ---- may

  private static void mayBe() {
    Check.says("4", "MAY BE of a PEG: KINDS (bits) by which, were it of that, all that is SEEN of it would be so;");
    for (int kind = 0; kind < 4; kind++)
      for (int u = 0; u <= 9; u++)
        for (int c = 0; c < 4; c++) {
          // one less and one more than it lifts, either way
          for (int v = 0; v <= 36; v++) {
            EbonyPegs x = Check.laid("p" + kind + "," + u + ",0;t2;");
            x.seen(0, c, v);
            int same = v - 18 == u - 5 ? 1 | 2 | 8 : 0;
            int turned = v - 18 == (c < 2 ? u - 5 : 5 - u) ? 4 : 0;
            Check.due("may(0, 0) of U " + u + " by " + c + ", " + v, x.may(0, 0), same | turned);
          }
        }
    EbonyPegs x = Check.laid("p0,6,0;p0,6,0;");
    Check.due("may(0, 0), nothing seen", x.may(0, 0), 15);
    x.seen(1, 0, 0);
    Check.due("may(0, 0), nothing seen of it", x.may(0, 0), 15);
    Check.due("may(1, 0), what cannot be", x.may(1, 0), 0);
    // all of six, the last one, too
    x = Check.laid("p2,6,0;");
    for (int i = 0; i < 5; i++) x.seen(0, 0, 19);
    Check.due("may(0, 0) of five", x.may(0, 0), 15);
    x.seen(0, 2, 17);
    Check.due("may(0, 0) of six", x.may(0, 0), 4);
  }

  private static void lifts() {
    Check.says("4", "LIFTS: U (bits of 0 to 9) by which it would, it being of its KIND.");
    for (int kind = 0; kind < 4; kind++)
      for (int c = 0; c < 4; c++)
        for (int v = 0; v <= 36; v++) {
          // two ride and a DOUBLING one is ahead, which is nothing to what was seen
          EbonyPegs x = Check.laid("p" + kind + ",7,0;p1,5,0;t2;");
          x.turn(1);
          x.seen(0, c, v);
          int u = (kind == 2 && c > 1 ? 18 - v : v - 18) + 5;
          Check.due("may(0, 1) of kind " + kind + " by " + c + ", " + v, x.may(0, 1), u >= 0 && u <= 9 ? 1 << u : 0);
        }
    EbonyPegs x = Check.laid("p0,6,0;p2,6,0;");
    Check.due("may(0, 1), nothing seen", x.may(0, 1), 1023);
    x.seen(0, 0, 13);
    Check.due("may(0, 1), the least", x.may(0, 1), 1);
    x.seen(0, 0, 22);
    Check.due("may(0, 1), two that cannot both be", x.may(0, 1), 0);
    x.seen(1, 3, 14);
    Check.due("may(1, 1), the most of a TURNED one", x.may(1, 1), 1 << 9);
    x.seen(1, 0, 22);
    Check.due("may(1, 1), two alike", x.may(1, 1), 1 << 9);
  }

  private static void mayRefused() {
    Check.says("may", "MAY BE (what = 0), LIFTS (1), as bits. BAD.");
    for (Supplier<EbonyPegs> maker : makers()) {
      int pegs = maker.get().count(0);
      for (int what = 0; what <= 1; what++) {
        int asked = what;
        Check.holds("may(" + (pegs - 1) + ", " + what + ") is not BAD", maker.get().may(pegs - 1, what) >= 0);
        Whole.unchanged("may(0, " + what + ")", maker, x -> x.may(0, asked));
        for (int p : new int[] {-1, pegs, 7, LEAST, MOST}) Whole.refused("may(" + p + ", " + what + ")", maker, x -> x.may(p, asked), BAD);
      }
      for (int what : new int[] {-1, 2, LEAST, MOST}) Whole.refused("may(0, " + what + ")", maker, x -> x.may(0, what), BAD);
    }
  }

  // ---- which

  private static void which() {
    Check.says("4", "WHICH: PEGS (bits) by whose one TURN from where it begins");
    // every place once, in several objects as each answers 512 calls
    for (int atY = 0; atY <= 9; atY++) {
      EbonyPegs x = Check.laid("p0,5,0;p0,9,1;p0,0,2;p0,5,3;p0,5,0;p0,6,0;p0,5,0;w3,1;b5,5,3,0;");
      for (int atX = 0; atX <= 9; atX++)
        for (int h = 0; h <= 9; h++) {
          int want = 0;
          if (atX == 6 && atY == 4 && h == 3) want = 1 | 16 | 64;
          if (atX == 6 && atY == 5 && h == 7) want = 2;
          if (atX == 5 && atY == 6 && h == 0) want = 4;
          if (atX == 5 && atY == 5 && h == 3) want = 8;
          if (atX == 5 && atY == 4 && h == 4) want = 32;
          Check.due("which(" + atX + ", " + atY + ", " + h + ")", x.which(atX, atY, h), want);
        }
    }
    Check.due("which(0, 0, 0) in the corner", Check.laid("p0,4,0;b0,0,1,0;").which(0, 0, 0), 1);
    Check.due("which(9, 9, 9) in the corner", Check.laid("p0,9,0;b9,9,9,1;").which(9, 9, 9), 1);
    Check.due("which(5, 4, 3) of seven", Check.laid("p0,5,0;".repeat(7)).which(5, 4, 3), 127);
  }

  private static void whichAsTold() {
    Check.says("4", "(none ahead, as told) it would be at X, Y, HEIGHT h.");
    // who ride, the turn ahead, place, height, course: as told, whatever has been since
    EbonyPegs x = Check.laid("p1,4,1;p3,9,0;r6,5;t2;b5,5,1,0;");
    Check.due("which(6, 5, 0)", x.which(6, 5, 0), 1);
    Check.due("which(5, 4, 3), two ride", x.which(5, 4, 3), 2);
    x.turn(0);
    x.setDown();
    x.turn(1);
    x.turn(0);
    Check.due("which(6, 5, 0)", x.which(6, 5, 0), 1);
    Check.due("which(5, 4, 3), two rode", x.which(5, 4, 3), 2);
    Check.due("which(5, 4, 5), as with one", x.which(5, 4, 5), 0);
    x = Check.laid("p1,7,0;b5,5,3,0;");
    x.turn(0);
    Check.due("which(5, 4, 5), none ahead", x.which(5, 4, 5), 1);
    Check.due("which(5, 4, 7), doubled", x.which(5, 4, 7), 0);
    Check.due("which(5, 3, 9), from now on", x.which(5, 3, 9), 0);
  }

  private static void whichRefused() {
    Check.says("which", "WHICH, as bits. BAD (X, Y, h 0 to 9).");
    for (Supplier<EbonyPegs> maker : makers()) {
      for (int bad : new int[] {-1, 10, LEAST, MOST})
        for (int good : new int[] {0, 5, 9}) {
          Whole.refused("which(" + bad + ", " + good + ", " + good + ")", maker, x -> x.which(bad, good, good), BAD);
          Whole.refused("which(" + good + ", " + bad + ", " + good + ")", maker, x -> x.which(good, bad, good), BAD);
          Whole.refused("which(" + good + ", " + good + ", " + bad + ")", maker, x -> x.which(good, good, bad), BAD);
        }
      for (int n : new int[] {0, 9}) Whole.refused("which(" + n + ", " + n + ", " + n + ")", maker, x -> x.which(n, n, n), 0);
    }
  }

  // ---- likely

  private static void likely(String what, EbonyPegs x, int n, int above, int below) {
    Check.due(what + ": likely(" + n + ", 0)", x.likely(n, 0), above);
    Check.due(what + ": likely(" + n + ", 1)", x.likely(n, 1), below);
  }

  private static void likely() {
    Check.says("4", "LIKELY for n (0 to 5) TURNS: each PEG alike likely each time, as long as it has not LANDED or FALLEN: how likely it has LANDED behind them,");
    // in the corner peg 0 lands, the others stay where it is
    for (int pegs = 1; pegs <= 7; pegs++) {
      EbonyPegs x = Check.laid("p0,4,0;" + "p0,5,0;".repeat(pegs - 1) + "r0,0;b0,0,1,0;");
      int all = 1;
      int others = 1;
      for (int n = 0; n <= 5; n++) {
        int above = all - others;
        likely(pegs + " pegs", x, n, above == 0 ? 0 : pegs == 1 ? 1 : above, above == 0 || pegs == 1 ? 1 : all);
        all *= pegs;
        others *= pegs - 1;
      }
    }
    // what has fallen does not land any more: 1 lands, 2 falls, 3 stays
    EbonyPegs x = Check.laid("p0,4,0;p0,4,1;p0,5,0;r0,0;b0,0,1,0;");
    int[] above = {0, 1, 4, 13, 40, 121};
    int[] below = {1, 3, 9, 27, 81, 243};
    for (int n = 0; n <= 5; n++) likely("one falls", x, n, above[n], below[n]);
    // no sooner than by as many turns as it is high, the fifth included
    x = Check.laid("p0,4,0;r0,0;b0,0,5,0;");
    for (int n = 0; n <= 5; n++) likely("5 high", x, n, n == 5 ? 1 : 0, 1);
    x = Check.laid("p0,4,0;r0,0;b0,0,6,0;");
    for (int n = 0; n <= 5; n++) likely("6 high", x, n, 0, 1);
  }

  private static void likelyWhenDown() {
    Check.says("4", "how likely it has LANDED behind them,");
    for (int n = 0; n <= 5; n++) {
      likely("landed", landed(), n, 1, 1);
      likely("fallen", fallen(), n, 0, 1);
    }
  }

  private static void lowestTerms() {
    Check.says("4", "in lowest terms.");
    EbonyPegs x = Check.laid("p0,4,0;".repeat(3) + "p0,5,0;".repeat(3) + "r0,0;b0,0,1,0;");
    int[] above = {0, 1, 3, 7, 15, 31};
    for (int n = 0; n <= 5; n++) likely("three of six", x, n, above[n], 1 << n);
    x = Check.laid("p0,4,0;".repeat(2) + "p0,5,0;".repeat(4) + "r0,0;b0,0,1,0;");
    likely("two of six", x, 1, 1, 3);
    likely("two of six", x, 2, 5, 9);
    x = Check.laid("p0,4,0;".repeat(7) + "r0,0;b0,0,1,0;");
    for (int n = 1; n <= 5; n++) likely("seven of seven", x, n, 1, 1);
    x = Check.laid("p0,5,0;".repeat(7) + "r0,0;b0,0,1,0;");
    for (int n = 0; n <= 5; n++) likely("none of seven", x, n, 0, 1);
    // the largest numbers that there are: 7 to the fifth, in no lower terms
    x = Check.laid("p0,4,0;" + "p0,5,0;".repeat(6) + "r0,0;b0,0,1,0;");
    likely("one of seven", x, 5, 16807 - 7776, 16807);
  }

  private static void likelyRefused() {
    Check.says("likely", "LIKELY: above (part = 0), below (1). BAD.");
    for (Supplier<EbonyPegs> maker : makers()) {
      for (int n : new int[] {-1, 6, LEAST, MOST})
        for (int part = -1; part <= 2; part++) {
          int asked = part;
          Whole.refused("likely(" + n + ", " + part + ")", maker, x -> x.likely(n, asked), BAD);
        }
      for (int part : new int[] {-1, 2, LEAST, MOST})
        for (int n = 0; n <= 5; n++) {
          int asked = n;
          Whole.refused("likely(" + n + ", " + part + ")", maker, x -> x.likely(asked, part), BAD);
        }
      for (int n = 0; n <= 5; n++) {
        int asked = n;
        Check.holds("likely(" + n + ", 0) is not BAD", Whole.unchanged("likely(" + n + ", 0)", maker, x -> x.likely(asked, 0)) >= 0);
        Check.holds("likely(" + n + ", 1) is not BAD", Whole.unchanged("likely(" + n + ", 1)", maker, x -> x.likely(asked, 1)) >= 1);
      }
    }
  }

  // ---- flight

  /** DRAW in numbers without a bound. */
  private static int draw(int z, int turn) {
    BigInteger x = BigInteger.valueOf(7919).multiply(BigInteger.valueOf(z))
      .add(BigInteger.valueOf(6151).multiply(BigInteger.valueOf(turn))).add(BigInteger.ONE);
    return x.multiply(x).mod(BigInteger.valueOf(65521)).intValueExact() / 8;
  }

  /** A flight, and beside it the same turns made one by one. */
  private static void flown(String text, int z, int n) {
    EbonyPegs x = Check.laid(text);
    int behind = x.flight(z, n, 0);
    int where = x.flight(z, n, 1);
    int turns = 0;
    while (turns < n && x.now(2) > 0) {
      x.turn(draw(z, turns) % x.count(0));
      turns++;
    }
    Check.due("flight(" + z + ", " + n + ", 0) of " + text, behind, x.now(6) == 1 ? turns : NONE);
    Check.due("flight(" + z + ", " + n + ", 1) of " + text, where, 100 * x.now(2) + 10 * x.now(1) + x.now(0));
  }

  private static void flightFromNowOn() {
    Check.says("4", "A FLIGHT by z (0 to 9999) of n (1 to 40) TURNS from now on, as long as it has not LANDED or FALLEN,");
    String[] texts = {"p0,5,1;p0,5,0;p0,5,2;", "p0,6,0;p0,4,1;w2,1;w4,3;r5,5;r4,4;b5,5,9,0;", "p0,4,0;p0,5,0;p0,5,1;r4,4;b5,5,9,0;"};
    for (String text : texts)
      for (int z : new int[] {0, 1, 2, 5000, 9998, 9999}) for (int n = 1; n <= 40; n++) flown(text, z, n);
    // from now on: a DOUBLING one is ahead
    EbonyPegs x = Check.laid("p1,4,0;b5,5,9,0;");
    Check.due("flight(0, 1, 1), none ahead", x.flight(0, 1, 1), 845);
    x.turn(0);
    Check.due("flight(0, 1, 1), one ahead", x.flight(0, 1, 1), 635);
    x.flyOn();
    Check.due("flight(0, 1, 1), an hour between", x.flight(0, 1, 1), 725);
  }

  private static void flightDraws() {
    Check.says("4", "of PEG DRAW modulo as many, DRAW being ((x times x) modulo 65521) by 8, cut,");
    Check.says("4", "x 7919 z, 6151 (the TURN, 0 first) and 1 together:");
    // each peg leads elsewhere, so that each draw is seen; as many pegs as there may be
    String pegs = "p0,5,0;p0,6,1;p0,4,2;p0,6,3;p1,6,1;p2,4,3;p3,5,2;";
    for (int many = 1; many <= 7; many++)
      for (int z = 0; z <= 9999; z += 1111) flown(pegs.substring(0, 7 * many) + "b5,5,9,0;", z, 40);
    for (int z = 0; z <= 40; z++) flown(pegs + "b5,5,9,0;", z, 1 + z % 40);
    // by hand: DRAW of the least and the greatest z, whose x times x is beyond an int
    int[][] draws = {{0, 0, 0}, {0, 1, 5185}, {1, 0, 2850}, {9999, 0, 6412}, {9999, 39, 6239}};
    for (int[] d : draws) Check.due("DRAW of " + d[0] + ", " + d[1], draw(d[0], d[1]), d[2]);
    // the peg of the first turn is seen by where it goes: 0 north, 1 east, 2 south, 3 west
    EbonyPegs x = Check.laid("p0,5,0;p0,5,1;p0,5,2;p0,5,3;");
    Check.due("flight(0, 1, 1): peg 0", x.flight(0, 1, 1), 345);
    Check.due("flight(0, 2, 1): pegs 0 and 1", x.flight(0, 2, 1), 346);
    Check.due("flight(1, 1, 1): peg 2", x.flight(1, 1, 1), 365);
    Check.due("flight(9999, 1, 1): peg 0", x.flight(9999, 1, 1), 345);
  }

  private static void flightLands() {
    Check.says("4", "behind how many it has LANDED");
    for (int h = 1; h <= 9; h++) {
      EbonyPegs x = Check.laid("p0,4,0;r5,0;b5,0," + h + ",0;");
      for (int n = 1; n <= 40; n++) Check.due("flight(0, " + n + ", 0) from " + h, x.flight(0, n, 0), n >= h ? h : NONE);
    }
    for (int n = 1; n <= 40; n += 39) Check.due("flight(0, " + n + ", 0) when landed", landed().flight(0, n, 0), 0);
    Check.due("flight(0, 40, 0) that lands", Check.laid("p0,4,0;r5,0;b5,0,9,0;").flight(9999, 40, 0), 9);
  }

  private static void flightNone() {
    Check.says("4", "(none: FALLEN, or neither);");
    Check.says("flight", "A FLIGHT: behind how many (what = 0; NONE),");
    EbonyPegs x = Check.laid("p0,4,0;r5,1;b5,0,2,0;");
    Check.due("flight(0, 1, 0), neither", x.flight(0, 1, 0), NONE);
    Check.due("flight(0, 2, 0), fallen", x.flight(0, 2, 0), NONE);
    Check.due("flight(0, 40, 0), fallen", x.flight(0, 40, 0), NONE);
    x = Check.laid("p0,5,0;r5,0;b5,0,2,0;");
    for (int n = 1; n <= 40; n++) Check.due("flight(0, " + n + ", 0), above a roof", x.flight(0, n, 0), NONE);
    Check.due("flight(0, 1, 0) when fallen", fallen().flight(0, 1, 0), NONE);
  }

  private static void flightWhere() {
    Check.says("4", "where it is, 100 times HEIGHT, 10 times Y and X.");
    Check.says("flight", "where (1).");
    Check.due("flight(0, 1, 1) at 0, 0", Check.laid("p0,4,0;b0,0,1,0;").flight(0, 1, 1), 0);
    Check.due("flight(0, 40, 1) at 9, 9, 9", Check.laid("p0,9,0;b9,9,9,2;").flight(0, 40, 1), 999);
    Check.due("flight(0, 1, 1) at 3, 7, 5", Check.laid("p0,5,0;b3,8,5,0;").flight(0, 1, 1), 573);
    Check.due("flight(0, 1, 1) when landed", landed().flight(0, 1, 1), 56);
    Check.due("flight(0, 40, 1) when fallen", fallen().flight(0, 40, 1), 56);
  }

  private static void flightRefused() {
    Check.says("flight", "BAD.");
    int[][] bad = {{-1, 1, 0}, {10000, 1, 0}, {0, 0, 0}, {0, 41, 0}, {0, -1, 0}, {0, 1, -1}, {0, 1, 2}, {9999, 40, 2}, {10000, 41, 2},
      {LEAST, 1, 0}, {MOST, 1, 1}, {0, LEAST, 0}, {0, MOST, 1}, {0, 1, LEAST}, {0, 1, MOST}};
    int[][] good = {{0, 1, 0}, {9999, 1, 0}, {0, 40, 0}, {9999, 40, 1}};
    for (Supplier<EbonyPegs> maker : makers()) {
      for (int[] n : bad) Whole.refused("flight(" + n[0] + ", " + n[1] + ", " + n[2] + ")", maker, x -> x.flight(n[0], n[1], n[2]), BAD);
      for (int[] n : good)
        Check.holds("flight(" + n[0] + ", " + n[1] + ", " + n[2] + ") is not BAD",
          Whole.unchanged("flight", maker, x -> x.flight(n[0], n[1], n[2])) != BAD);
    }
  }

  // ---- kept

  private static void keptAll() {
    Check.says("4", "KEPT are X, Y, HEIGHT, COURSE, HOURS, who rides, the TURN ahead:");
    EbonyPegs x = landed();
    x.keep();
    x.setDown();
    x.turn(1);
    x.turn(0);
    Check.stands("flown on", x, 7, 6, 4, 2, 3, 1, 0, 0, 0);
    x.keep();
    x.turn(1);
    x.flyOn();
    x.back();
    Check.stands("kept last", x, 7, 6, 4, 2, 3, 1, 0, 0, 0);
    Check.due("a DOUBLING one is ahead", x.peg(0, 3), 18);
    x.back();
    Check.stands("kept first", x, 6, 5, 0, 1, 1, 2, 1, 0, 0);
    Check.due("two ride again", x.setDown(), 1);
    // no turn ahead is kept as well; what is seen and written is not
    x = Check.laid("p1,4,0;");
    x.keep();
    x.turn(0);
    x.seen(0, 0, 0);
    x.write('t');
    x.back();
    Check.stands("none ahead", x, 5, 5, 3, 0, 0, 1, 0, 0, NONE);
    Check.counts("behind back()", x, 1, 0, 1, 0, 0, 8);
    // kept as it was, whatever is undone behind it
    x = Check.laid("p0,6,0;");
    x.turn(0);
    x.keep();
    x.undo();
    Check.due("count(4) behind undo()", x.count(4), 1);
    x.back();
    Check.stands("kept, though undone", x, 5, 4, 4, 0, 1, 1, 0, 0, 0);
    Check.stands("fallen, kept", backAtFallen(), 6, 5, 0, 1, 1, 2, 0, 1, 0);
  }

  private static EbonyPegs backAtFallen() {
    EbonyPegs x = fallen();
    x.keep();
    x.undo();
    x.back();
    return x;
  }

  private static void mostKept() {
    Check.says("4", "2 at most.");
    Check.says("keep", "KEPT: how many.");
    EbonyPegs x = new EbonyPegs();
    Check.due("keep()", x.keep(), 1);
    Check.due("keep() of the same", x.keep(), 2);
    Check.due("keep() of a third", x.keep(), FULL);
    Check.due("back()", x.back(), 1);
    Check.due("keep()", x.keep(), 2);
    Check.due("keep()", x.keep(), FULL);
    Check.due("count(4)", x.count(4), 2);
    Check.due("keep() when landed", landed().keep(), 1);
    Check.due("keep() when fallen", fallen().keep(), 1);
  }

  private static void keepRefused() {
    Check.says("keep", "FULL.");
    Whole.refused("keep() of a third", GuessBoundsTest::full, EbonyPegs::keep, FULL);
    Supplier<EbonyPegs> down = () -> {
      EbonyPegs x = full();
      for (int i = 0; i < 8; i++) x.turn(0);
      Check.due("down", x.now(2), 0);
      return x;
    };
    Whole.refused("keep() of a third when down", down, EbonyPegs::keep, FULL);
  }

  private static void back() {
    Check.says("back", "As KEPT last: how many are left;");
    EbonyPegs x = Check.laid("p0,6,1;");
    x.keep();
    x.turn(0);
    x.keep();
    x.turn(0);
    Check.due("back() of two", x.back(), 1);
    Check.stands("kept last", x, 6, 5, 4, 1, 1, 1, 0, 0, 0);
    Check.due("back() of one", x.back(), 0);
    Check.stands("kept first", x, 5, 5, 3, 0, 0, 1, 0, 0, NONE);
  }

  private static void backUndoes() {
    Check.says("back", "nothing is UNDONE then.");
    EbonyPegs x = full();
    x.back();
    Check.due("count(3)", x.count(3), 0);
    Check.due("undo()", x.undo(), NO);
    for (int i = 1; i <= 9; i++) {
      x.flyOn();
      Check.due("count(3)", x.count(3), Math.min(8, i));
    }
    // keeping alone leaves what can be undone
    x = full();
    Check.due("undo() behind keep()", x.undo(), 7);
  }

  private static void backRefused() {
    Check.says("back", "NO.");
    Supplier<EbonyPegs> gone = () -> {
      EbonyPegs x = full();
      x.back();
      x.back();
      x.flyOn();
      return x;
    };
    Whole.refused("back() of none", EbonyPegs::new, EbonyPegs::back, NO);
    Whole.refused("back() of none when landed", GuessBoundsTest::landed, EbonyPegs::back, NO);
    Whole.refused("back() of none when fallen", GuessBoundsTest::fallen, EbonyPegs::back, NO);
    Whole.refused("back() of a third", gone, EbonyPegs::back, NO);
  }

  // ---- count

  private static void counts() {
    Check.says("count", "How many: 0 PEGS, 1 ROOFS, 2 SEEN, 3 that can be UNDONE, 4 KEPT, 5 letters of THE TEXT.");
    Check.counts("least", Check.laid("p0,5,0;"), 1, 0, 0, 0, 0, 7);
    String text = "p0,5,0;".repeat(7) + "r1,1;".repeat(6);
    EbonyPegs x = Check.laid(text);
    for (int i = 0; i < 6; i++) x.seen(6, 0, 18);
    for (int i = 0; i < 10; i++) x.turn(6);
    x.keep();
    x.keep();
    for (int length = text.length(); length < 200; length++) x.write('t');
    Check.counts("most", x, 7, 6, 6, 8, 2, 200);
    x.wipe();
    x.forget();
    Check.counts("wiped and forgotten", x, 7, 6, 0, 8, 2, 0);
  }

  private static void countRefused() {
    Check.says("count", "BAD.");
    for (Supplier<EbonyPegs> maker : makers())
      for (int what : new int[] {-1, 6, 7, LEAST, MOST}) Whole.refused("count(" + what + ")", maker, x -> x.count(what), BAD);
  }

  // ---- 512 calls

  private static void inUse() {
    Check.says("use", "An object is used for at most 512 calls after it has been made;");
    // the dearest calls, as often as an object may be called, answer as they did at first
    EbonyPegs x = new EbonyPegs();
    int length = x.way(1, -1);
    int near = x.near(5);
    int above = x.likely(5, 0);
    for (int calls = 3; calls < 512; calls += 3) {
      Check.due("way(1, -1) as call " + calls, x.way(1, -1), length);
      Check.due("near(5) as call " + calls, x.near(5), near);
      if (calls + 2 < 512) Check.due("likely(5, 0) as call " + calls, x.likely(5, 0), above);
    }
    // 512 turns: what can be undone is never more than 8
    x = Check.laid("p0,5,1;");
    for (int calls = 9; calls < 510; calls++) Check.due("turn(0) as call " + calls, x.turn(0), 3);
    Check.due("count(3)", x.count(3), 8);
    Check.due("undo()", x.undo(), 7);
  }
}
