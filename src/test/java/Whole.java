import java.util.ArrayList;
import java.util.List;
import java.util.function.Supplier;
import java.util.function.ToIntFunction;

/**
 * All that can be learnt of an object by calls, for comparing two of them. Learning it uses the
 * object up: what can be undone is undone, what is kept is gone back to, THE TEXT is laid.
 */
final class Whole {
  private final EbonyPegs x;
  private final List<Integer> answers = new ArrayList<>();

  private Whole(EbonyPegs x) {
    this.x = x;
  }

  /** Some 270 calls at most, so that there is room for a text of 200 letters ahead of them. */
  static List<Integer> of(EbonyPegs x) {
    Whole whole = new Whole(x);
    whole.laid();
    whole.answers.add(x.fault());
    int pegs = x.count(0);
    for (int p = 0; p < pegs; p++) whole.seen(p);
    for (int i = 0; i < 9 && whole.flown(x.undo()); i++) whole.horse();
    for (int i = 0; i < 3 && whole.flown(x.back()); i++) whole.horse();
    whole.answers.add(x.forget());
    if (whole.flown(x.lay())) whole.laid();
    return whole.answers;
  }

  /**
   * The call's answer; and that a second object made in the same way, to which it was not made,
   * is the same in all else.
   */
  static int unchanged(String what, Supplier<EbonyPegs> maker, ToIntFunction<EbonyPegs> call) {
    EbonyPegs asked = maker.get();
    int answer = call.applyAsInt(asked);
    Check.holds("nothing changes by " + what, of(asked).equals(of(maker.get())));
    return answer;
  }

  /** As unchanged, and the answer is the one that is due. */
  static void refused(String what, Supplier<EbonyPegs> maker, ToIntFunction<EbonyPegs> call, int want) {
    Check.due(what, unchanged(what, maker, call), want);
  }

  private boolean flown(int answer) {
    answers.add(answer);
    return answer >= 0;
  }

  private void horse() {
    for (int what = 0; what < 9; what++) answers.add(x.now(what));
  }

  private void seen(int p) {
    answers.add(x.may(p, 0));
    answers.add(x.may(p, 1));
  }

  private void laid() {
    horse();
    for (int what = 0; what < 6; what++) answers.add(x.count(what));
    int pegs = x.count(0);
    for (int p = 0; p < pegs; p++) for (int what = 0; what < 5; what++) answers.add(x.peg(p, what));
    for (int h = 1; h <= 9; h++) answers.add(x.wind(h));
    int roofs = x.count(1);
    for (int r = 0; r < roofs; r++) for (int what = 0; what < 2; what++) answers.add(x.roof(r, what));
  }
}
