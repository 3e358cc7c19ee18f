import java.util.ArrayList;
import java.util.LinkedHashMap;
import java.util.List;
import java.util.Map;
import java.util.function.Supplier;
import java.util.function.ToIntFunction;

/**
 * The line of the document on BAD, NO, NONE and FULL, for every call in every kind of state: each
 * number just inside and just outside of its bounds, alone and with the others.
 */
public final class RefusalsTest {
  private static final int BAD = EbonyPegs.BAD, NO = EbonyPegs.NO, FULL = EbonyPegs.FULL, NONE = EbonyPegs.NONE;
  private static final int PEG = -10, ROOF = -11;

  /** What is called, with as many numbers as it takes. */
  private interface Call {
    int on(EbonyPegs x, int[] n);
  }

  /** A call with the least and the greatest of each of its numbers (PEG, ROOF: such as there are). */
  private record Asked(String name, Call call, boolean changes, int... bounds) {
    int numbers() {
      return bounds.length / 2;
    }

    int least(int i) {
      return bounds[2 * i];
    }

    int greatest(int i, EbonyPegs x) {
      int most = bounds[2 * i + 1];
      return most == PEG ? x.count(0) - 1 : most == ROOF ? x.count(1) - 1 : most;
    }
  }

  private static final List<Asked> CALLS = List.of(
    new Asked("write", (x, n) -> x.write(n[0]), true, 32, 126),
    new Asked("peg", (x, n) -> x.peg(n[0], n[1]), false, 0, PEG, 0, 4),
    new Asked("wind", (x, n) -> x.wind(n[0]), false, 1, 9),
    new Asked("roof", (x, n) -> x.roof(n[0], n[1]), false, 0, ROOF, 0, 1),
    new Asked("turn", (x, n) -> x.turn(n[0]), true, 0, PEG),
    new Asked("now", (x, n) -> x.now(n[0]), false, 0, 8),
    new Asked("way", (x, n) -> x.way(n[0], n[1]), false, 0, ROOF, -1, 5),
    new Asked("near", (x, n) -> x.near(n[0]), false, 0, 5),
    new Asked("undoes", (x, n) -> x.undoes(n[0]), false, 0, PEG),
    new Asked("either", (x, n) -> x.either(n[0], n[1]), false, 0, PEG, 0, PEG),
    new Asked("drift", (x, n) -> x.drift(n[0]), false, 1, 20),
    new Asked("seen", (x, n) -> x.seen(n[0], n[1], n[2]), true, 0, PEG, 0, 3, 0, 36),
    new Asked("may", (x, n) -> x.may(n[0], n[1]), false, 0, PEG, 0, 1),
    new Asked("which", (x, n) -> x.which(n[0], n[1], n[2]), false, 0, 9, 0, 9, 0, 9),
    new Asked("likely", (x, n) -> x.likely(n[0], n[1]), false, 0, 5, 0, 1),
    new Asked("flight", (x, n) -> x.flight(n[0], n[1], n[2]), false, 0, 9999, 1, 40, 0, 1),
    new Asked("count", (x, n) -> x.count(n[0]), false, 0, 5));

  private static final Map<String, Supplier<EbonyPegs>> STATES = new LinkedHashMap<>();

  static {
    STATES.put("new", EbonyPegs::new);
    STATES.put("one peg, no roof", () -> Check.laid("p0,5,0;"));
    STATES.put("seven pegs, six roofs", () -> Check.laid("p1,6,1;".repeat(7) + "r5,4;".repeat(6)));
    STATES.put("full in the air", () -> filled(new EbonyPegs()));
    STATES.put("landed with one", () -> down("r6,5;r1,1;t1;"));
    STATES.put("landed with two", () -> down("r6,5;r1,1;t2;"));
    STATES.put("fallen", () -> down("r1,1;t2;"));
    STATES.put("fallen, no roof", () -> down(""));
    STATES.put("landed and full", () -> filled(down("r6,5;r1,1;t2;")));
    STATES.put("fallen and full", () -> filled(down("r1,1;")));
  }

  public static void main(String[] args) {
    bad();
    no();
    none();
    full();
    ofSeveral();
    nothingChanges();
    Check.end();
  }

  /** Down by the turn of peg 0. */
  private static EbonyPegs down(String rest) {
    EbonyPegs x = Check.laid("p1,4,1;p3,9,0;p2,7,3;b5,5,1,0;" + rest);
    x.turn(0);
    Check.due("down", x.now(2), 0);
    return x;
  }

  /** As full as can be: letters, what is seen, kept and, where it can still fly, to be undone. */
  private static EbonyPegs filled(EbonyPegs x) {
    for (int i = 0; i < 6; i++) x.seen(i % 3, i % 4, 15 + i);
    for (int i = 0; i < 9; i++) x.flyOn();
    x.keep();
    x.keep();
    Check.due("count(2)", x.count(2), 6);
    Check.due("count(4)", x.count(4), 2);
    for (int i = x.count(5); i < 200; i++) x.write(i % 3 == 0 ? 't' : i % 3 == 1 ? '2' : ';');
    Check.due("count(5)", x.count(5), 200);
    return x;
  }

  /** Every row of numbers of which each is at its bounds, one beyond them, or as far off as an int can be. */
  private static List<int[]> rows(Asked asked, EbonyPegs x) {
    List<int[]> rows = new ArrayList<>();
    rows.add(new int[asked.numbers()]);
    for (int i = 0; i < asked.numbers(); i++) {
      int least = asked.least(i);
      int greatest = asked.greatest(i, x);
      int[] tried = {Integer.MIN_VALUE, least - 1, least, greatest, greatest + 1, Integer.MAX_VALUE};
      List<int[]> longer = new ArrayList<>();
      for (int[] row : rows)
        for (int n : tried) {
          int[] next = row.clone();
          next[i] = n;
          longer.add(next);
        }
      rows = longer;
    }
    return rows;
  }

  private static boolean isTold(Asked asked, EbonyPegs x, int[] row) {
    for (int i = 0; i < row.length; i++) if (row[i] < asked.least(i) || row[i] > asked.greatest(i, x)) return false;
    return true;
  }

  private static String shown(String state, Asked asked, int[] row) {
    return state + ": " + asked.name() + java.util.Arrays.toString(row);
  }

  private static void bad() {
    Check.says("refusals", "BAD: a number is none that is told (PEGS, ROOFS: such as there are).");
    STATES.forEach((state, maker) -> {
      EbonyPegs shape = maker.get();
      for (Asked asked : CALLS)
        for (int[] row : rows(asked, shape)) {
          int got = asked.call().on(maker.get(), row);
          Check.due(shown(state, asked, row) + " is BAD", got == BAD ? 1 : 0, isTold(asked, shape, row) ? 0 : 1);
        }
    });
  }

  private static void refused(String what, String[] states, ToIntFunction<EbonyPegs> call, int want) {
    for (String state : states) Whole.refused(state + ": " + what, STATES.get(state), call, want);
  }

  private static void no() {
    Check.says("refusals", "NO: not as things stand.");
    String[] isDown = {"landed with one", "landed with two", "fallen", "fallen, no roof", "landed and full", "fallen and full"};
    String[] flies = {"new", "one peg, no roof", "seven pegs, six roofs", "full in the air"};
    refused("turn(0)", isDown, x -> x.turn(0), NO);
    refused("flyOn()", isDown, EbonyPegs::flyOn, NO);
    refused("drift(1)", isDown, x -> x.drift(1), NO);
    for (String state : flies) {
      Check.holds(state + ": turn(0) is not refused", STATES.get(state).get().turn(0) >= 0);
      Check.holds(state + ": flyOn() is not refused", STATES.get(state).get().flyOn() >= 0);
      Check.holds(state + ": drift(1) is not refused", STATES.get(state).get().drift(1) >= 0);
    }
    refused("setDown()", flies, EbonyPegs::setDown, NO);
    refused("setDown()", new String[] {"landed with one", "fallen", "fallen, no roof", "fallen and full"}, EbonyPegs::setDown, NO);
    for (String state : new String[] {"landed with two", "landed and full"})
      Check.due(state + ": setDown()", STATES.get(state).get().setDown(), 1);
    refused("undo()", new String[] {"new", "one peg, no roof", "seven pegs, six roofs"}, EbonyPegs::undo, NO);
    refused("back()", new String[] {"new", "one peg, no roof", "landed with two", "fallen"}, EbonyPegs::back, NO);
    refused("lay()", new String[] {"new", "full in the air", "landed and full"}, EbonyPegs::lay, NO);
  }

  private static void none() {
    Check.says("refusals", "NONE: there is none.");
    refused("now(8)", new String[] {"new", "one peg, no roof", "full in the air"}, x -> x.now(8), NONE);
    refused("fault()", new String[] {"new", "one peg, no roof", "landed with two"}, EbonyPegs::fault, NONE);
    refused("way(0, -1)", new String[] {"fallen", "fallen and full"}, x -> x.way(0, -1), NONE);
    refused("way(1, -1)", new String[] {"landed with one", "landed and full"}, x -> x.way(1, -1), NONE);
    refused("way(0, 0)", new String[] {"landed with one", "landed and full"}, x -> x.way(0, 0), NONE);
    refused("flight(0, 1, 0)", new String[] {"new", "fallen", "fallen, no roof"}, x -> x.flight(0, 1, 0), NONE);
  }

  private static void full() {
    Check.says("refusals", "FULL.");
    String[] full = {"full in the air", "landed and full", "fallen and full"};
    refused("write(112)", full, x -> x.write(112), FULL);
    refused("seen(0, 0, 18)", full, x -> x.seen(0, 0, 18), FULL);
    refused("keep()", full, EbonyPegs::keep, FULL);
    // what can be undone is never full: the oldest one goes
    EbonyPegs x = STATES.get("full in the air").get();
    Check.holds("flyOn() of a ninth", x.flyOn() >= 0);
    Check.due("count(3)", x.count(3), 8);
  }

  private static void ofSeveral() {
    Check.says("refusals", "Of several the first;");
    refused("turn(-1)", new String[] {"landed with one", "fallen"}, x -> x.turn(-1), BAD);
    refused("turn(3)", new String[] {"landed with one", "fallen"}, x -> x.turn(3), BAD);
    refused("drift(0)", new String[] {"landed with one", "fallen"}, x -> x.drift(0), BAD);
    refused("drift(21)", new String[] {"landed with one", "fallen"}, x -> x.drift(21), BAD);
    refused("way(0, 6)", new String[] {"fallen", "fallen and full"}, x -> x.way(0, 6), BAD);
    refused("way(0, -2)", new String[] {"fallen", "fallen and full"}, x -> x.way(0, -2), BAD);
    refused("flight(0, 0, 0)", new String[] {"fallen"}, x -> x.flight(0, 0, 0), BAD);
    String[] full = {"full in the air", "landed and full", "fallen and full"};
    refused("write(31)", full, x -> x.write(31), BAD);
    refused("write(127)", full, x -> x.write(127), BAD);
    refused("seen(-1, 0, 18)", full, x -> x.seen(-1, 0, 18), BAD);
    refused("seen(0, 4, 18)", full, x -> x.seen(0, 4, 18), BAD);
    refused("seen(0, 0, 37)", full, x -> x.seen(0, 0, 37), BAD);
  }

  private static void nothingChanges() {
    Check.says("refusals", "nothing changes then.");
    STATES.forEach((state, maker) -> {
      EbonyPegs shape = maker.get();
      List<Integer> untouched = Whole.of(maker.get());
      for (Asked asked : CALLS)
        for (int[] row : rows(asked, shape)) {
          EbonyPegs x = maker.get();
          boolean refused = asked.call().on(x, row) < 0;
          if (refused || !asked.changes()) Check.holds("nothing changes by " + shown(state, asked, row), Whole.of(x).equals(untouched));
        }
    });
  }
}
