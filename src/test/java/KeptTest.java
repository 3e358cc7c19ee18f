/** Promises 26 to 28: keep, back, count. */
public final class KeptTest {
  private static final int BAD = EbonyPegs.BAD, NO = EbonyPegs.NO, FULL = EbonyPegs.FULL, NONE = EbonyPegs.NONE;

  public static void main(String[] args) {
    keep();
    back();
    backAndUndo();
    keptWhenDown();
    count();
    Check.end();
  }

  private static EbonyPegs landedWithTwo() {
    EbonyPegs x = Check.laid("p1,4,1;p3,9,0;r6,5;t2;b5,5,1,0;");
    x.turn(0);
    return x;
  }

  private static void keep() {
    EbonyPegs x = new EbonyPegs();
    Check.due("keep()", x.keep(), 1);
    Check.due("keep()", x.keep(), 2);
    x.turn(0);
    Check.due("keep() of a third", x.keep(), FULL);
    Check.due("count(4)", x.count(4), 2);
    Check.due("count(3)", x.count(3), 1);
    Check.due("back()", x.back(), 1);
    Check.stands("the second one, not the third", x, 5, 5, 3, 0, 0, 1, 0, 0, NONE);
    Check.due("keep()", x.keep(), 2);
  }

  private static void back() {
    EbonyPegs x = landedWithTwo();
    Check.due("keep()", x.keep(), 1);
    x.setDown();
    x.turn(1);
    x.flyOn();
    Check.due("keep()", x.keep(), 2);
    x.turn(1);
    x.turn(0);
    Check.due("back()", x.back(), 1);
    Check.stands("kept last", x, 8, 5, 5, 1, 3, 1, 0, 0, NONE);
    Check.due("back()", x.back(), 0);
    Check.stands("kept first", x, 6, 5, 0, 1, 1, 2, 1, 0, 0);
    Check.due("back() of nothing", x.back(), NO);
    Check.stands("as before", x, 6, 5, 0, 1, 1, 2, 1, 0, 0);
    Check.due("the turn ahead is kept", x.peg(0, 3), 18);
    Check.due("setDown() behind back", x.setDown(), 1);
  }

  private static void backAndUndo() {
    EbonyPegs x = new EbonyPegs();
    x.turn(0);
    x.keep();
    x.turn(1);
    x.seen(0, 0, 20);
    x.write('p');
    Check.due("undo() goes beyond keep", x.undo(), 1);
    Check.due("undo() goes beyond keep", x.undo(), 0);
    x.turn(3);
    Check.due("back()", x.back(), 0);
    Check.due("count(3) behind back", x.count(3), 0);
    Check.due("undo() behind back", x.undo(), NO);
    Check.stands("behind back", x, 4, 4, 5, 0, 1, 1, 0, 0, 0);
    Check.due("count(2) behind back", x.count(2), 1);
    Check.due("count(5) behind back", x.count(5), 1);
    x.turn(0);
    Check.due("back() of nothing", x.back(), NO);
    Check.due("count(3) behind a refused back", x.count(3), 1);
    Check.due("undo()", x.undo(), 0);
    Check.stands("behind undo", x, 4, 4, 5, 0, 1, 1, 0, 0, 0);
  }

  private static void keptWhenDown() {
    EbonyPegs x = Check.laid("p0,4,0;p0,5,0;b5,5,1,0;");
    x.keep();
    x.turn(0);
    Check.due("keep() when fallen", x.keep(), 2);
    Check.due("back() when fallen", x.back(), 1);
    Check.stands("fallen again", x, 5, 4, 0, 0, 1, 1, 0, 1, 0);
    Check.due("turn(1)", x.turn(1), NO);
    Check.due("back()", x.back(), 0);
    Check.due("turn(1)", x.turn(1), 1);
  }

  private static void count() {
    EbonyPegs x = Check.laid("p0,5,0;p0,5,0;r1,1;r1,1;r2,2;");
    x.turn(0);
    x.turn(0);
    x.flyOn();
    x.flyOn();
    x.keep();
    for (int i = 0; i < 5; i++) x.seen(0, 0, 0);
    int[] counts = {2, 3, 5, 4, 1, 29};
    for (int what = 0; what < 6; what++) Check.due("count(" + what + ")", x.count(what), counts[what]);
    int[] bad = {-1, 6, Integer.MIN_VALUE, Integer.MAX_VALUE};
    for (int what : bad) Check.due("count(" + what + ")", x.count(what), BAD);
  }
}
