import java.util.Random;

/** Runs of calls drawn from fixed seeds, each answered by the class and by Slow alike. */
public final class RandomRunsTest {
  private static final int RUNS = 3000;
  private static final int[] EDGES = {-2, -1, 40, 41, 100, 9999, 10000, Integer.MIN_VALUE, Integer.MAX_VALUE};
  private final Random random;
  private EbonyPegs fast;
  private Slow slow;
  private final StringBuilder log = new StringBuilder();

  private RandomRunsTest(long seed) {
    random = new Random(seed);
  }

  public static void main(String[] args) {
    for (int run = 0; run < RUNS && Check.wrongs() < 5; run++) new RandomRunsTest(run).run();
    Check.end();
  }

  private void run() {
    fast = new EbonyPegs();
    slow = new Slow();
    int calls = 0;
    // a text takes 200 calls at most, and an object answers for 512
    if (random.nextInt(5) > 0) calls += layText(random.nextInt(6) == 0);
    boolean relays = random.nextInt(4) == 0;
    while (calls < 300 && Check.wrongs() < 5) {
      call();
      calls++;
    }
    if (relays) {
      layText(random.nextInt(3) == 0);
      for (int i = 0; i < 8; i++) call();
    }
  }

  private int layText(boolean spoilt) {
    StringBuilder text = new StringBuilder(drawnText());
    if (spoilt && text.length() > 0) {
      String signs = "0123456789,;pwrbt xP";
      int at = random.nextInt(text.length());
      switch (random.nextInt(3)) {
        case 0: text.deleteCharAt(at); break;
        case 1: text.setCharAt(at, signs.charAt(random.nextInt(signs.length()))); break;
        default: text.insert(at, signs.charAt(random.nextInt(signs.length())));
      }
    }
    same("wipe()", fast.wipe(), slow.wipe());
    for (int i = 0; i < text.length(); i++) same("write(" + text.charAt(i) + ")", fast.write(text.charAt(i)), slow.write(text.charAt(i)));
    same("fault()", fast.fault(), slow.fault());
    same("lay()", fast.lay(), slow.lay());
    return text.length() + 3;
  }

  private String drawnText() {
    StringBuilder text = new StringBuilder();
    int pegs = random.nextInt(40) == 0 ? 8 : 1 + random.nextInt(random.nextInt(3) == 0 ? 7 : 4);
    // many are gentle, so that landings are common
    for (int i = 0; i < pegs; i++) item(text, 'p', random.nextInt(4), random.nextInt(3) == 0 ? random.nextInt(10) : 3 + random.nextInt(4), random.nextInt(4));
    for (int i = random.nextInt(6); i > 0; i--) item(text, 'w', 1 + random.nextInt(9), random.nextInt(5));
    int x = random.nextInt(10);
    int y = random.nextInt(10);
    int roofs = random.nextInt(40) == 0 ? 7 : random.nextInt(7);
    for (int i = 0; i < roofs; i++) item(text, 'r', close(x), close(y));
    if (random.nextInt(5) > 0) item(text, 'b', x, y, 1 + random.nextInt(random.nextInt(2) == 0 ? 3 : 9), random.nextInt(4));
    if (random.nextInt(3) > 0) item(text, 't', 1 + random.nextInt(2));
    return text.substring(0, Math.min(200, text.length()));
  }

  private int close(int n) {
    return Math.max(0, Math.min(9, n + random.nextInt(5) - 2));
  }

  private void item(StringBuilder text, char letter, int... numbers) {
    text.append(letter);
    for (int i = 0; i < numbers.length; i++) {
      if (random.nextInt(30) == 0) text.append('0');
      text.append(numbers[i]).append(i < numbers.length - 1 ? ',' : ';');
    }
  }

  /** A number from 0 to most; now and then one beyond, or far off. */
  private int arg(int most) {
    int dice = random.nextInt(60);
    if (dice == 0) return EDGES[random.nextInt(EDGES.length)];
    if (dice == 1) return -1;
    if (dice == 2) return most + 1;
    return random.nextInt(most + 1);
  }

  private int pegArg() {
    return random.nextInt(40) == 0 ? arg(7) : random.nextInt(Math.max(1, slow.count(0)));
  }

  private int roofArg() {
    return random.nextInt(40) == 0 ? arg(6) : random.nextInt(Math.max(1, slow.count(1)));
  }

  private void call() {
    int dice = random.nextInt(100);
    if (dice < 30) flying();
    else if (dice < 40) horses();
    else if (dice < 68) wouldBe();
    else if (dice < 85) wasSeen();
    else if (dice < 91) chances();
    else kept();
    for (int what = 0; what < 9; what++) same("now(" + what + ")", fast.now(what), slow.now(what));
  }

  private void horses() {
    int a = pegArg();
    int b = arg(5);
    switch (random.nextInt(6)) {
      case 0: same("peg(" + a + ", 3)", fast.peg(a, 3), slow.peg(a, 3)); break;
      case 1: same("peg(" + a + ", 4)", fast.peg(a, 4), slow.peg(a, 4)); break;
      case 2: same("peg(" + a + ", " + b + ")", fast.peg(a, b), slow.peg(a, b)); break;
      case 3: b = arg(10); same("wind(" + b + ")", fast.wind(b), slow.wind(b)); break;
      case 4: a = roofArg(); b = arg(1); same("roof(" + a + ", " + b + ")", fast.roof(a, b), slow.roof(a, b)); break;
      default: a = 28 + arg(100); same("write(" + a + ")", fast.write(a), slow.write(a));
    }
  }

  private void flying() {
    int a = pegArg();
    // what is down can fly again only by one of these
    boolean isDown = slow.now(2) == 0;
    switch (random.nextInt(isDown ? 4 : 10)) {
      case 0: same("undo()", fast.undo(), slow.undo()); break;
      case 1: case 2: same("setDown()", fast.setDown(), slow.setDown()); break;
      case 3: same("flyOn()", fast.flyOn(), slow.flyOn()); break;
      default: same("turn(" + a + ")", fast.turn(a), slow.turn(a));
    }
    if (isDown && random.nextInt(8) == 0) same("lay()", fast.lay(), slow.lay());
  }

  private void wouldBe() {
    int a = pegArg();
    int b = pegArg();
    switch (random.nextInt(12)) {
      case 0: case 1: same("safe()", fast.safe(), slow.safe()); break;
      case 2: a = roofArg(); b = arg(6) - 1; same("way(" + a + ", " + b + ")", fast.way(a, b), slow.way(a, b)); break;
      case 3: a = arg(5); same("near(" + a + ")", fast.near(a), slow.near(a)); break;
      case 4: case 5: case 6: same("undoes(" + a + ")", fast.undoes(a), slow.undoes(a)); break;
      case 7: case 8: case 9: same("either(" + a + ", " + b + ")", fast.either(a, b), slow.either(a, b)); break;
      default: a = arg(20); same("drift(" + a + ")", fast.drift(a), slow.drift(a));
    }
  }

  private void wasSeen() {
    int a = pegArg();
    int b = arg(3);
    int c = random.nextInt(3) == 0 ? arg(36) : 18 + random.nextInt(5) - 2;
    switch (random.nextInt(9)) {
      case 0: same("forget()", fast.forget(), slow.forget()); break;
      case 1: case 2: case 3: same("seen(" + a + ", " + b + ", " + c + ")", fast.seen(a, b, c), slow.seen(a, b, c)); break;
      case 4: case 5: case 6: b = arg(1); same("may(" + a + ", " + b + ")", fast.may(a, b), slow.may(a, b)); break;
      default:
        a = arg(9); b = arg(9); c = arg(9);
        same("which(" + a + ", " + b + ", " + c + ")", fast.which(a, b, c), slow.which(a, b, c));
    }
  }

  private void chances() {
    int a = arg(5);
    int b = arg(1);
    if (random.nextInt(4) == 0) {
      same("likely(" + a + ", " + b + ")", fast.likely(a, b), slow.likely(a, b));
    } else {
      a = arg(9999);
      int n = arg(40);
      same("flight(" + a + ", " + n + ", " + b + ")", fast.flight(a, n, b), slow.flight(a, n, b));
    }
  }

  private void kept() {
    int a = arg(5);
    switch (random.nextInt(3)) {
      case 0: same("keep()", fast.keep(), slow.keep()); break;
      case 1: same("back()", fast.back(), slow.back()); break;
      default: same("count(" + a + ")", fast.count(a), slow.count(a));
    }
  }

  private void same(String call, int got, int want) {
    log.append(call).append(' ');
    if (got != want) System.out.println("behind: " + log);
    Check.due(call, got, want);
  }
}
