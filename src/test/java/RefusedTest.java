import java.util.Random;

/**
 * Runs of made-up calls, wild numbers among them: none throws, what is refused changes nothing but findings. (With
 * those that look, a run has more than 512 calls: the document leaves the later ones free, the program does not.)
 */
public final class RefusedTest {
  private static final int RUNS = 1500, CALLS = 512;
  private static final int SPENT = -6, FINDING = -3, NONE = -9;
  private static final int[] WILD = {
    Integer.MIN_VALUE, Integer.MIN_VALUE + 1, -256, -10, -9, -8, -2, -1, 5, 6, 7, 11, 12, 13, 23, 24, 25, 35, 36, 37,
    100, 200, 201, 255, 256, 20000, 20001, 60000, 60001, 65535, 65536, Integer.MAX_VALUE - 1, Integer.MAX_VALUE
  };
  private static int wrong = 0;

  private final Random random;
  private final LoadsUnseen x = new LoadsUnseen();
  private final int[] found = new int[6];
  private int latest = 0;

  private RefusedTest(long seed) {
    random = new Random(seed);
  }

  private static void due(String call, long got, long want) {
    if (got == want) return;
    wrong++;
    if (wrong < 50) System.out.println(call + " answered " + got + ", due is " + want);
  }

  private int upTo(int below) {
    return random.nextInt(25) == 0 ? WILD[random.nextInt(WILD.length)] : random.nextInt(below);
  }

  private int number() {
    return random.nextInt(6) == 0 ? NONE : upTo(6);
  }

  private int triesTold() {
    return random.nextInt(3) == 0 ? upTo(40) : upTo(400);
  }

  private long call(int which) {
    switch (which) {
      case 0: return random.nextInt(20) == 0 ? x.net(upTo(8)) : 0;
      case 1: return x.line(upTo(4), upTo(5), upTo(5));
      case 2: return x.told(upTo(12), upTo(6));
      case 3: return x.mark(upTo(12), upTo(4));
      case 4: return x.down(upTo(12), random.nextInt(5) == 0);
      case 5: return x.rate(upTo(12), upTo(60001));
      case 6: return x.reading(upTo(12), upTo(24), random.nextInt(4) == 0 ? number() : upTo(70000));
      case 7: return x.load(upTo(12), upTo(24), upTo(24));
      case 8: return x.mean(upTo(12));
      case 9: return x.route(upTo(5), upTo(5), upTo(5) - 1);
      case 10: return x.carried(upTo(12), number());
      case 11: return x.meter(upTo(5), upTo(5), random.nextInt(2) == 0 ? NONE : number());
      case 12: return x.fits(triesTold());
      case 13: return x.fit(upTo(5), upTo(5));
      case 14: return x.many(triesTold());
      case 15: return x.bound(upTo(5), upTo(5), random.nextBoolean(), triesTold());
      case 16: return x.sure(triesTold());
      case 17: return x.guess(upTo(5), upTo(5));
      case 18: return x.base(upTo(5), upTo(5), upTo(6));
      case 19: return x.changed(triesTold());
      case 20: return x.worst(upTo(12), upTo(12), triesTold());
      case 21: return x.meters(triesTold());
      case 22: return x.sheet(upTo(4), upTo(26) - 1);
      case 23: return x.lay(upTo(4), upTo(24), upTo(300));
      case 24: return x.play(upTo(4), upTo(12));
      case 25: return random.nextInt(4) == 0 ? x.tear(upTo(4)) : 0;
      case 26: return x.copy(upTo(4), upTo(8), upTo(4), upTo(8), upTo(10) - 1);
      case 27: return x.count(upTo(6));
      default: return x.findings(upTo(7));
    }
  }

  private static boolean tellsItsFit(int which) {
    return which == 12 || which == 19 || which == 20;
  }

  private long fits() {
    long h = 17;
    for (int a = 0; a < 6; a++) for (int b = 0; b < 6; b++) h = 31 * h + x.fit(a, b);
    return h;
  }

  private void run() {
    x.net(2 + random.nextInt(4));
    for (int i = 0; i < CALLS; i++) {
      int which = random.nextInt(29);
      long digest = x.digest();
      long fits = fits();
      long asked = x.asked();
      int tries = x.tries();
      long got = call(which);
      compareFindings(which, got);
      // No call answers a number below 0 but NONE when it is not refused.
      if (got >= 0 || got == NONE) continue;
      due("digest behind refused call " + which, x.digest(), digest);
      due("asked behind refused call " + which, x.asked(), asked);
      if (got != SPENT) due("tries behind refused call " + which, x.tries(), tries);
      if (got == SPENT && tellsItsFit(which)) due("fit behind SPENT", x.fit(0, 1), NONE);
      else due("fit behind refused call " + which, fits(), fits);
    }
  }

  private void compareFindings(int which, long got) {
    if (got == FINDING) {
      due("finding of call " + which, x.finding() >= 1 && x.finding() <= 5 ? 1 : 0, 1);
      if (x.finding() < 1 || x.finding() > 5) return;
      latest = x.finding();
      found[latest]++;
    }
    due("finding behind call " + which, x.finding(), latest);
    for (int f = 1; f <= 5; f++) due("findings(" + f + ") behind call " + which, x.findings(f), found[f]);
  }

  public static void main(String[] args) {
    for (int i = 0; i < RUNS; i++) {
      RefusedTest test = new RefusedTest(i);
      try {
        test.run();
      } catch (RuntimeException | StackOverflowError e) {
        wrong++;
        System.out.println("run " + i + " threw " + e + " at " + e.getStackTrace()[0]);
      }
    }
    System.out.println(wrong == 0 ? "all answers are as due" : wrong + " answers are not as due");
    if (wrong != 0) System.exit(1);
  }
}
