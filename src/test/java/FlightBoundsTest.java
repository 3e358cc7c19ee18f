import java.util.function.Supplier;

/** Part 2 and promises 9 to 13, sentence by sentence: how far, how high, how often, and when no more. */
public final class FlightBoundsTest {
  private static final int BAD = EbonyPegs.BAD, NO = EbonyPegs.NO, NONE = EbonyPegs.NONE;
  private static final int[] EAST = {0, 1, 0, -1, 0};
  private static final int[] SOUTH = {-1, 0, 1, 0, 0};

  public static void main(String[] args) {
    axes();
    heightCut();
    plainLift();
    doublingLift();
    notDoubled();
    turnedLift();
    heavyLift();
    courseTurned();
    courseThenWind();
    windOfTheNewHeight();
    noWindAtNought();
    neverBeyond();
    landedOrFallen();
    nothingTurnedThen();
    turnAnswers();
    turnRefused();
    flyOnAlone();
    flyOnAnswers();
    flyOnRefused();
    setDownWhere();
    setDownThen();
    setDownAnswers();
    setDownRefused();
    undoneEach();
    lastEight();
    undoAnswers();
    undoRefused();
    nowAnswers();
    nowAhead();
    nowRefused();
    Check.end();
  }

  private static int within(int n) {
    return Math.max(0, Math.min(9, n));
  }

  private static String begin(int x, int y, int h, int course) {
    return "b" + x + "," + y + "," + h + "," + course + ";";
  }

  // ---- where it is

  private static void axes() {
    Check.says("2", "It is at X (east is more), Y (south is more), HEIGHT 0 to 9, its COURSE is 0 to 3 as D, HOURS go by.");
    for (int course = 0; course < 4; course++) {
      EbonyPegs x = Check.laid("p0,5,0;" + begin(4, 5, 6, course));
      Check.stands("begun", x, 4, 5, 6, course, 0);
      for (int hours = 1; hours <= 3; hours++) {
        if (hours == 2) x.flyOn(); else x.turn(0);
        Check.stands("hour " + hours, x, 4 + hours * EAST[course], 5 + hours * SOUTH[course], 6, course, hours);
      }
    }
    // hours have no most
    EbonyPegs x = Check.laid("p0,5,1;");
    for (int hours = 1; hours <= 400; hours++) x.turn(0);
    Check.due("now(4) behind 400", x.now(4), 400);
  }

  // ---- how high

  /** turn(p) from a height, the lift being as told: cut at 0 and at 9, and down at 0 alone. */
  private static void lifted(String what, EbonyPegs x, int p, int by) {
    int want = within(x.now(2) + by);
    Check.due(what + ": turn", x.turn(p), want);
    Check.due(what + ": now(2)", x.now(2), want);
    Check.due(what + ": down", x.now(6) + x.now(7), want == 0 ? 1 : 0);
  }

  private static void heightCut() {
    Check.says("2", "By a TURN of a PEG in an HOUR: 1 HEIGHT is as much more as it lifts, 0 at least, 9 at most:");
    lifted("9 by 0", Check.laid("p0,5,0;b5,5,9,0;"), 0, 0);
    lifted("9 by 1", Check.laid("p0,6,0;b5,5,9,0;"), 0, 1);
    lifted("9 by 4", Check.laid("p0,9,0;b5,5,9,0;"), 0, 4);
    lifted("5 by 4", Check.laid("p0,9,0;b5,5,5,0;"), 0, 4);
    lifted("1 by -1", Check.laid("p0,4,0;b5,5,1,0;"), 0, -1);
    lifted("1 by -5", Check.laid("p0,0,0;b5,5,1,0;"), 0, -5);
    lifted("5 by -5", Check.laid("p0,0,0;b5,5,5,0;"), 0, -5);
    lifted("6 by -5", Check.laid("p0,0,0;b5,5,6,0;"), 0, -5);
    // from 9, where it was cut, it goes on as from 9
    EbonyPegs x = Check.laid("p0,9,0;p0,0,0;b5,5,8,0;");
    lifted("8 by 4", x, 0, 4);
    lifted("9 by -5", x, 1, -5);
  }

  private static void plainLift() {
    Check.says("2", "a PLAIN one by U less 5;");
    for (int h = 1; h <= 9; h++)
      for (int u = 0; u <= 9; u++)
        for (int course = 0; course < 4; course++)
          for (int riders = 1; riders <= 2; riders++)
            lifted("U " + u, Check.laid("p0," + u + ",0;" + begin(5, 5, h, course) + "t" + riders + ";"), 0, u - 5);
  }

  private static void doublingLift() {
    Check.says("2", "a DOUBLING one twice that, if the TURN ahead was of a DOUBLING one, too;");
    for (int h = 1; h <= 9; h++)
      for (int u = 0; u <= 9; u++) {
        String text = "p1," + u + ",0;p1,5,0;p0,5,0;p2,5,0;p3,5,0;" + begin(5, 5, h, 2);
        for (int ahead = 0; ahead < 5; ahead++) {
          EbonyPegs x = Check.laid(text);
          lifted("DOUBLING, none ahead", Check.laid(text), 0, u - 5);
          x.turn(ahead);
          if (x.now(2) > 0) lifted("DOUBLING behind " + ahead, x, 0, (ahead < 2 ? 2 : 1) * (u - 5));
        }
      }
    // twice, and not more, however many were ahead
    EbonyPegs x = Check.laid("p1,6,0;b5,5,1,0;");
    int[] heights = {2, 4, 6, 8, 9, 9};
    for (int height : heights) Check.due("DOUBLING in a row", x.turn(0), height);
  }

  private static void notDoubled() {
    Check.says("2", "if the TURN ahead was of a DOUBLING one, too;");
    EbonyPegs x = Check.laid("p1,7,0;p0,5,0;b5,5,1,0;");
    x.turn(0);
    x.flyOn();
    lifted("DOUBLING, an hour between", x, 0, 2);
    x.turn(1);
    lifted("DOUBLING, a PLAIN one between", x, 0, 2);
    // others are not doubled behind a DOUBLING one
    String[] kinds = {"p0,7,0;", "p2,7,0;", "p3,7,0;"};
    for (String kind : kinds) {
      x = Check.laid("p1,5,0;" + kind);
      x.turn(0);
      lifted(kind + " behind a DOUBLING one", x, 1, 2);
    }
  }

  private static void turnedLift() {
    Check.says("2", "a TURNED one by that the other way (and turns to the left), if its COURSE is south or west;");
    for (int h = 1; h <= 9; h++)
      for (int u = 0; u <= 9; u++)
        for (int course = 0; course < 4; course++) {
          int t = (h + u) % 4;
          EbonyPegs x = Check.laid("p2," + u + "," + t + ";" + begin(5, 5, h, course) + "t2;");
          boolean otherWay = course >= 2;
          lifted("TURNED, course " + course, x, 0, otherWay ? 5 - u : u - 5);
          Check.due("TURNED, course " + course + ": now(3)", x.now(3), (course + (otherWay ? 4 - t : t)) % 4);
        }
  }

  private static void heavyLift() {
    Check.says("2", "a HEAVY one by 2 less, if two ride.");
    for (int h = 1; h <= 9; h++)
      for (int u = 0; u <= 9; u++)
        for (int riders = 1; riders <= 2; riders++) {
          EbonyPegs x = Check.laid("p3," + u + ",0;t" + riders + ";" + begin(5, 5, h, h % 4));
          lifted("HEAVY with " + riders, x, 0, u - 5 - 2 * (riders - 1));
        }
    for (int kind = 0; kind < 3; kind++) lifted("kind " + kind + " with two", Check.laid("p" + kind + ",7,0;t2;"), 0, 2);
  }

  // ---- which way, where to

  private static void courseTurned() {
    Check.says("2", "2 COURSE is turned.");
    for (int kind = 0; kind < 4; kind++)
      for (int course = 0; course < 4; course++)
        for (int t = 0; t < 4; t++) {
          EbonyPegs x = Check.laid("p" + kind + ",5," + t + ";" + begin(5, 5, 5, course));
          x.turn(0);
          int to = kind == 2 && course > 1 ? course - t + 4 : course + t;
          Check.due("kind " + kind + ", course " + course + ", T " + t, x.now(3), to % 4);
        }
    // round and round
    EbonyPegs x = Check.laid("p0,5,1;p0,5,3;");
    for (int i = 1; i <= 9; i++) {
      x.turn(0);
      Check.due("quarter " + i + " to the right", x.now(3), i % 4);
    }
    for (int i = 8; i >= 0; i--) {
      x.turn(1);
      Check.due("quarter " + i + " back", x.now(3), i % 4);
    }
  }

  private static void courseThenWind() {
    Check.says("2", "3 It goes one to its COURSE, then one as the WIND blows at its HEIGHT");
    for (int course = 0; course < 4; course++)
      for (int wind = 0; wind <= 4; wind++) {
        // the course is the one that it was turned to
        EbonyPegs x = Check.laid("p0,5,1;w3," + wind + ";" + begin(5, 5, 3, (course + 3) % 4));
        x.turn(0);
        Check.stands("course " + course + ", wind " + wind, x, 5 + EAST[course] + EAST[wind], 5 + SOUTH[course] + SOUTH[wind], 3, course);
      }
    // the course ahead of the wind: held at the edge first, then blown away from it
    EbonyPegs x = Check.laid("p0,5,0;w3,2;b5,0,3,0;");
    Check.due("flyOn() at the north edge", x.flyOn(), 15);
  }

  private static void windOfTheNewHeight() {
    Check.says("2", "as the WIND blows at its HEIGHT");
    for (int u = 0; u <= 9; u++) {
      int h = within(4 + u - 5);
      if (h == 0) continue;
      for (int at = 1; at <= 9; at++) {
        EbonyPegs x = Check.laid("p0," + u + ",0;w" + at + ",1;b5,5,4,0;");
        x.turn(0);
        Check.stands("at height " + h + ", wind at " + at, x, at == h ? 6 : 5, 4, h);
      }
    }
  }

  private static void noWindAtNought() {
    Check.says("2", "(none at 0),");
    StringBuilder winds = new StringBuilder();
    for (int h = 1; h <= 9; h++) winds.append("w").append(h).append(",1;");
    for (int h = 1; h <= 5; h++) {
      EbonyPegs x = Check.laid("p0,0,0;r5,4;" + winds + begin(5, 5, h, 0));
      x.turn(0);
      Check.stands("from " + h + " to 0", x, 5, 4, 0, 0, 1, 1, 1, 0);
    }
  }

  private static void neverBeyond() {
    Check.says("2", "never beyond 0 or 9.");
    for (int atX = 0; atX <= 9; atX++)
      for (int atY = 0; atY <= 9; atY++)
        for (int course = 0; course < 4; course++)
          for (int wind = 0; wind <= 4; wind++) {
            EbonyPegs x = Check.laid("p0,5,0;w3," + wind + ";" + begin(atX, atY, 3, course));
            int toX = within(within(atX + EAST[course]) + EAST[wind]);
            int toY = within(within(atY + SOUTH[course]) + SOUTH[wind]);
            Check.due("flyOn() from " + atX + ", " + atY, x.flyOn(), 10 * toY + toX);
            x.undo();
            x.turn(0);
            Check.stands("turned at " + atX + ", " + atY, x, toX, toY, 3, course);
          }
  }

  // ---- landed, fallen

  private static void landedOrFallen() {
    Check.says("2", "4 At HEIGHT 0 it has LANDED, if there is a ROOF, else FALLEN:");
    for (int roofX = 4; roofX <= 6; roofX++)
      for (int roofY = 3; roofY <= 5; roofY++) {
        EbonyPegs x = Check.laid("p0,4,0;p0,5,0;r0,0;r" + roofX + "," + roofY + ";r9,9;b5,5,1,0;");
        x.turn(0);
        boolean on = roofX == 5 && roofY == 4;
        Check.stands("down, a roof at " + roofX + ", " + roofY, x, 5, 4, 0, 0, 1, 1, on ? 1 : 0, on ? 0 : 1);
        // 1 high is neither, whatever is below
        x.undo();
        x.turn(1);
        Check.stands("1 high, a roof at " + roofX + ", " + roofY, x, 5, 4, 1, 0, 1, 1, 0, 0);
      }
    for (int r = 0; r < 6; r++) {
      StringBuilder text = new StringBuilder("p0,4,0;b5,5,1,0;");
      for (int i = 0; i < 6; i++) text.append(i == r ? "r5,4;" : "r4,5;");
      EbonyPegs x = Check.laid(text.toString());
      x.turn(0);
      Check.due("landed on roof " + r, x.now(6), 1);
    }
    EbonyPegs x = Check.laid("p0,4,0;b5,5,1,0;");
    x.turn(0);
    Check.due("fallen where there are no roofs", x.now(7), 1);
    x = Check.laid("p0,4,0;b5,5,1,0;" + "r4,4;".repeat(6));
    x.turn(0);
    Check.due("fallen beside six roofs", x.now(7), 1);
    // in the corners, where course and wind hold it
    x = Check.laid("p0,4,0;r0,0;b0,0,1,0;");
    x.turn(0);
    Check.due("landed at 0, 0", x.now(6), 1);
    x = Check.laid("p0,4,0;r9,9;b9,9,1,2;");
    x.turn(0);
    Check.due("landed at 9, 9", x.now(6), 1);
    for (int roofs = 0; roofs <= 6; roofs++) {
      x = Check.laid("p0,4,0;b0,0,1,0;" + "r1,1;".repeat(roofs));
      x.turn(0);
      Check.due("fallen at 0, 0, beside " + roofs + " roofs", x.now(7), 1);
    }
    // a roof of the text that was laid ahead is none
    x = Check.laid("p0,4,0;r1,1;r5,4;b5,5,1,0;");
    Check.text(x, "p0,4,0;r1,1;b5,5,1,0;");
    x.lay();
    x.turn(0);
    Check.due("fallen where there was a roof", x.now(7), 1);
  }

  private static EbonyPegs landedWith(int riders) {
    EbonyPegs x = Check.laid("p1,4,1;p3,9,0;r6,5;w1,2;b5,5,1,0;t" + riders + ";");
    x.turn(0);
    Check.due("landed", x.now(6), 1);
    return x;
  }

  private static EbonyPegs fallenWith(int riders) {
    EbonyPegs x = Check.laid("p1,4,1;p3,9,0;r6,4;w1,2;b5,5,1,0;t" + riders + ";");
    x.turn(0);
    Check.due("fallen", x.now(7), 1);
    return x;
  }

  private static void nothingTurnedThen() {
    Check.says("2", "nothing can be TURNED then.");
    for (int p = 0; p < 2; p++) {
      int peg = p;
      Whole.refused("turn(" + p + ") when landed", () -> landedWith(1), x -> x.turn(peg), NO);
      Whole.refused("turn(" + p + ") when landed with two", () -> landedWith(2), x -> x.turn(peg), NO);
      Whole.refused("turn(" + p + ") when fallen", () -> fallenWith(1), x -> x.turn(peg), NO);
    }
    // undone, it can be turned again
    EbonyPegs x = fallenWith(1);
    x.undo();
    Check.due("turn(1) behind undo()", x.turn(1), 5);
  }

  // ---- turn

  private static void turnAnswers() {
    Check.says("turn", "A PEG is TURNED: how high it is.");
    EbonyPegs x = Check.laid("p0,9,0;p0,0,0;p0,5,0;b5,5,8,0;");
    Check.due("turn(0)", x.turn(0), 9);
    Check.due("turn(2)", x.turn(2), 9);
    Check.due("turn(1)", x.turn(1), 4);
    Check.due("turn(1)", x.turn(1), 0);
  }

  private static void turnRefused() {
    Check.says("turn", "BAD; NO: LANDED, FALLEN.");
    for (int pegs = 1; pegs <= 7; pegs++) {
      int many = pegs;
      Supplier<EbonyPegs> flying = () -> Check.laid("p0,5,1;".repeat(many));
      Supplier<EbonyPegs> fallen = () -> {
        EbonyPegs x = Check.laid("p0,4,1;".repeat(many) + "b5,5,1,0;");
        x.turn(many - 1);
        return x;
      };
      Check.due("turn(" + (pegs - 1) + ") of " + pegs, flying.get().turn(pegs - 1), 3);
      for (int p : new int[] {-1, pegs, pegs + 1, Integer.MIN_VALUE, Integer.MAX_VALUE}) {
        Whole.refused("turn(" + p + ") of " + pegs, flying, x -> x.turn(p), BAD);
        Whole.refused("turn(" + p + ") of " + pegs + " when fallen", fallen, x -> x.turn(p), BAD);
      }
      Whole.refused("turn(" + (pegs - 1) + ") of " + pegs + " when fallen", fallen, x -> x.turn(many - 1), NO);
    }
  }

  // ---- flyOn

  private static void flyOnAlone() {
    Check.says("2", "It can FLY ON for an HOUR: 3 and 4 alone (no TURN is ahead then).");
    for (int h = 1; h <= 9; h++) {
      EbonyPegs x = Check.laid("p1,5,1;w" + h + ",2;r5,6;r6,5;r6,7;" + begin(5, 5, h, 0));
      x.turn(0);
      Check.stands("turned at " + h, x, 6, 6, h, 1, 1, 1, 0, 0, 0);
      x.flyOn();
      // neither height nor course is another one, and it has not come down on the roof below
      Check.stands("flown on at " + h, x, 7, 7, h, 1, 2, 1, 0, 0, NONE);
    }
  }

  private static void flyOnAnswers() {
    Check.says("flyOn", "It FLIES ON: where it is, 10 times Y and X.");
    Check.due("flyOn() in the corner", Check.laid("p0,5,0;b0,0,3,0;").flyOn(), 0);
    Check.due("flyOn() to the top row", Check.laid("p0,5,0;b9,1,3,0;").flyOn(), 9);
    Check.due("flyOn() in the other corner", Check.laid("p0,5,0;b9,9,3,1;").flyOn(), 99);
    Check.due("flyOn() to 3, 7", Check.laid("p0,5,0;b3,8,3,0;").flyOn(), 73);
  }

  private static void flyOnRefused() {
    Check.says("flyOn", "NO: LANDED, FALLEN.");
    for (int riders = 1; riders <= 2; riders++) {
      int many = riders;
      Whole.refused("flyOn() when landed", () -> landedWith(many), EbonyPegs::flyOn, NO);
      Whole.refused("flyOn() when fallen", () -> fallenWith(many), EbonyPegs::flyOn, NO);
    }
  }

  // ---- setDown

  private static EbonyPegs setDownOnce() {
    EbonyPegs x = landedWith(2);
    Check.due("setDown()", x.setDown(), 1);
    return x;
  }

  private static void setDownWhere() {
    Check.says("2", "A rider can be set down, where two ride and it has LANDED:");
    Check.due("setDown() when landed with two", landedWith(2).setDown(), 1);
    Check.due("setDown() when landed with one", landedWith(1).setDown(), NO);
    Check.due("setDown() when fallen with two", fallenWith(2).setDown(), NO);
    Check.due("setDown() when fallen with one", fallenWith(1).setDown(), NO);
    for (int h = 1; h <= 9; h++) Check.due("setDown() at " + h + " above a roof", Check.laid("p0,5,0;r5,5;t2;" + begin(5, 5, h, 0)).setDown(), NO);
  }

  private static void setDownThen() {
    Check.says("2", "one rides then, it is 1 high, has not LANDED, and no TURN is ahead (no HOUR goes by).");
    EbonyPegs x = setDownOnce();
    Check.stands("set down", x, 6, 5, 1, 1, 1, 1, 0, 0, NONE);
    Check.due("a DOUBLING peg is not doubled", x.peg(0, 3), 19);
    Check.due("a HEAVY peg lifts as with one", x.peg(1, 3), 24);
    Check.due("it can be turned again", x.turn(1), 5);
    // it can come down again, but with one there is none to be set down
    x = Check.laid("p0,4,1;p0,5,0;r6,5;r6,6;t2;b5,5,1,0;");
    x.turn(0);
    x.setDown();
    x.turn(0);
    Check.stands("landed once more", x, 6, 6, 0, 2, 2, 1, 1, 0, 0);
    Check.due("setDown() with one", x.setDown(), NO);
  }

  private static void setDownAnswers() {
    Check.says("setDown", "A rider is set down: how many ride.");
    EbonyPegs x = landedWith(2);
    Check.due("setDown()", x.setDown(), 1);
    Check.due("now(5)", x.now(5), 1);
  }

  private static void setDownRefused() {
    Check.says("setDown", "NO.");
    Whole.refused("setDown() when landed with one", () -> landedWith(1), EbonyPegs::setDown, NO);
    Whole.refused("setDown() when fallen with two", () -> fallenWith(2), EbonyPegs::setDown, NO);
    Whole.refused("setDown() in the air with two", () -> Check.laid("p0,5,0;r5,5;t2;b5,5,1,0;"), EbonyPegs::setDown, NO);
    Whole.refused("setDown() a second time", FlightBoundsTest::setDownOnce, EbonyPegs::setDown, NO);
  }

  // ---- undo

  private static void undoneEach() {
    Check.says("2", "UNDONE is the latest TURN, HOUR, setting down");
    EbonyPegs x = landedWith(2);
    x.setDown();
    x.turn(1);
    x.flyOn();
    Check.stands("flown on", x, 8, 5, 5, 1, 3, 1, 0, 0, NONE);
    x.undo();
    Check.stands("the hour undone", x, 7, 5, 5, 1, 2, 1, 0, 0, 1);
    x.undo();
    Check.stands("the turn undone", x, 6, 5, 1, 1, 1, 1, 0, 0, NONE);
    x.undo();
    Check.stands("the setting down undone", x, 6, 5, 0, 1, 1, 2, 1, 0, 0);
    Check.due("a DOUBLING turn is ahead again", x.peg(0, 3), 18);
    x.undo();
    Check.stands("the landing undone", x, 5, 5, 1, 0, 0, 2, 0, 0, NONE);
  }

  private static void lastEight() {
    Check.says("2", "(the last 8 can be).");
    for (int moves = 0; moves <= 18; moves++) {
      EbonyPegs x = Check.laid("p0,5,1;p0,5,0;");
      for (int i = 0; i < moves; i++) if (i % 3 == 0) x.flyOn(); else x.turn(i % 2);
      int can = Math.min(8, moves);
      Check.due("count(3) behind " + moves, x.count(3), can);
      for (int left = can - 1; left >= 0; left--) {
        Check.due("undo() behind " + moves, x.undo(), left);
        Check.due("now(4) behind undo()", x.now(4), moves - can + left);
      }
      Check.due("undo() of one more behind " + moves, x.undo(), NO);
      Check.due("now(4) behind all", x.now(4), moves - can);
    }
    // undone and done again at the full row
    EbonyPegs x = Check.laid("p0,5,1;p0,5,0;");
    for (int i = 0; i < 12; i++) x.turn(0);
    x.undo();
    x.flyOn();
    Check.due("count(3)", x.count(3), 8);
    x.flyOn();
    Check.due("count(3)", x.count(3), 8);
    for (int left = 7; left >= 0; left--) Check.due("undo()", x.undo(), left);
    Check.due("now(4)", x.now(4), 5);
    Check.due("undo()", x.undo(), NO);
  }

  private static void undoAnswers() {
    Check.says("undo", "UNDONE: how many more can be.");
    EbonyPegs x = Check.laid("p0,5,1;p0,5,0;");
    x.turn(0);
    Check.due("undo() of one", x.undo(), 0);
    for (int i = 0; i < 8; i++) x.turn(0);
    Check.due("undo() of eight", x.undo(), 7);
    x.turn(1);
    x.turn(1);
    Check.due("undo() of nine", x.undo(), 7);
  }

  private static void undoRefused() {
    Check.says("undo", "NO.");
    Whole.refused("undo() of a new object", EbonyPegs::new, EbonyPegs::undo, NO);
    Whole.refused("undo() behind lay()", () -> Check.laid("p0,5,0;"), EbonyPegs::undo, NO);
    Supplier<EbonyPegs> all = () -> {
      EbonyPegs x = landedWith(2);
      x.setDown();
      x.keep();
      x.undo();
      x.undo();
      return x;
    };
    Whole.refused("undo() when all is undone", all, EbonyPegs::undo, NO);
    Supplier<EbonyPegs> gone = () -> {
      EbonyPegs x = landedWith(2);
      x.keep();
      x.back();
      return x;
    };
    Whole.refused("undo() behind back()", gone, EbonyPegs::undo, NO);
    // what is asked, seen, kept or written is none that can be undone
    EbonyPegs x = new EbonyPegs();
    x.seen(0, 0, 0);
    x.keep();
    x.write('p');
    x.drift(3);
    x.flight(0, 9, 1);
    Check.due("undo() of what is no turn", x.undo(), NO);
  }

  // ---- now

  private static void nowAnswers() {
    Check.says("now", "X (what = 0), Y (1), HEIGHT (2), COURSE (3), HOURS (4), who ride (5), 1 if it has LANDED (6), FALLEN (7),");
    Check.stands("in the air", Check.laid("p0,5,0;b9,0,9,3;t2;"), 9, 0, 9, 3, 0, 2, 0, 0);
    Check.stands("in the air", Check.laid("p0,5,0;b0,9,1,0;t1;"), 0, 9, 1, 0, 0, 1, 0, 0);
    Check.stands("landed", landedWith(2), 6, 5, 0, 1, 1, 2, 1, 0);
    Check.stands("fallen", fallenWith(1), 6, 5, 0, 1, 1, 1, 0, 1);
  }

  private static void nowAhead() {
    Check.says("now", "the PEG of the TURN ahead (8; NONE).");
    EbonyPegs x = Check.laid("p0,5,0;".repeat(7));
    Check.due("now(8), none ahead", x.now(8), NONE);
    for (int p = 0; p < 7; p++) {
      x.turn(p);
      Check.due("now(8)", x.now(8), p);
    }
    x.flyOn();
    Check.due("now(8) behind flyOn()", x.now(8), NONE);
    x.undo();
    Check.due("now(8) behind undo()", x.now(8), 6);
    Check.due("now(8) when landed", landedWith(2).now(8), 0);
    Check.due("now(8) behind setDown()", setDownOnce().now(8), NONE);
  }

  private static void nowRefused() {
    Check.says("now", "BAD.");
    for (int what : new int[] {-1, 9, 10, Integer.MIN_VALUE, Integer.MAX_VALUE}) {
      Whole.refused("now(" + what + ")", EbonyPegs::new, x -> x.now(what), BAD);
      Whole.refused("now(" + what + ") when landed", () -> landedWith(2), x -> x.now(what), BAD);
      Whole.refused("now(" + what + ") when fallen", () -> fallenWith(2), x -> x.now(what), BAD);
    }
  }
}
