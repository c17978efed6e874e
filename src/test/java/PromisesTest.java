/** One method for each promise of the document: ordinary inputs, the edges that it names, and wrong inputs. */
public final class PromisesTest {
  private static final int BAD = -1, FULL = -2, FINDING = -3, STATE = -4, SPENT = -6, NONE = -9;
  private static final int NOTHING = 1, BEYOND = 2, UNLIKE = 3, NOUGHT = 4, SIZE = 5;
  private static final int LEAST = Integer.MIN_VALUE, MOST = Integer.MAX_VALUE;
  private static int wrong = 0;
  private static int promise = 0;

  private static void due(String call, long got, long want) {
    if (got == want) return;
    wrong++;
    System.out.println("promise " + promise + ": " + call + " answered " + got + ", due is " + want);
  }

  /** A call that is to answer a FINDING, with what is told of it before and behind. */
  private static void dueFinding(LoadsUnseen x, String call, int before, int got, int which) {
    due(call, got, FINDING);
    due(call + " finding()", x.finding(), which);
    due(call + " findings(" + which + ")", x.findings(which), before + 1);
  }

  /** KNOTS 0 .. k - 1, and LINES of KIND 0 by two numbers each. */
  private static LoadsUnseen made(int k, int... ends) {
    LoadsUnseen x = new LoadsUnseen();
    due("net", x.net(k), k);
    for (int i = 0; i < ends.length; i += 2) due("line", x.line(0, ends[i], ends[i + 1]), i / 2);
    return x;
  }

  /** 0 -> 1 -> 2 that carry 2 and 1: (0, 1), (0, 2), (1, 2) are sought, and (0, 2) is 0 or 1. */
  private static LoadsUnseen chain() {
    LoadsUnseen x = made(3, 0, 1, 1, 2);
    due("carried", x.carried(0, 2), NONE);
    due("carried", x.carried(1, 1), NONE);
    return x;
  }

  /** A chain that has no FIT: the meter is more than a LINE carries. */
  private static LoadsUnseen unfit() {
    LoadsUnseen x = chain();
    due("meter", x.meter(0, 2, 2), NONE);
    return x;
  }

  private static long told(long... values) {
    long h = 17;
    for (long v : values) h = 31 * h + v;
    return h;
  }

  private static void newObject() {
    LoadsUnseen x = new LoadsUnseen();
    due("count(0)", x.count(0), 2);
    due("count(1)", x.count(1), 0);
    due("count(2)", x.count(2), 0);
    due("count(3)", x.count(3), 0);
    due("count(4)", x.count(4), 2);
    for (int s = 0; s < 4; s++) due("tear", x.tear(s), FINDING);
    due("finding", new LoadsUnseen().finding(), 0);
    for (int f = 1; f <= 5; f++) due("findings", new LoadsUnseen().findings(f), 0);
    due("asked", x.asked(), 0);
    due("tries", x.tries(), 0);
    due("fit", x.fit(0, 1), NONE);
    due("meter", x.meter(0, 1, NONE), NONE);
    due("base", x.base(1, 0, 0), 0);
  }

  private static void net() {
    LoadsUnseen x = chain();
    x.meter(0, 1, 1);
    x.base(0, 1, 7);
    x.sheet(2, 3);
    x.many(100);
    x.fits(100);
    int tries = x.tries();
    for (int k : new int[] {LEAST, -1, 0, 1, 7, 8, MOST}) due("net(" + k + ")", x.net(k), BAD);
    due("count(1)", x.count(1), 2);
    due("fit", x.fit(0, 1), 1);
    due("net(3)", x.net(3), 3);
    due("count(0)", x.count(0), 3);
    due("count(1)", x.count(1), 0);
    due("count(2)", x.count(2), 0);
    due("count(3)", x.count(3), 0);
    due("count(4)", x.count(4), 6);
    due("meter", x.meter(0, 1, NONE), NONE);
    due("base", x.base(0, 1, 0), 0);
    due("fit", x.fit(0, 1), NONE);
    due("tries", x.tries(), tries);
    due("the sheet", x.lay(2, 2, 1), 1000);
    for (int k = 2; k <= 6; k++) {
      due("net", x.net(k), k);
      due("count(4)", x.count(4), k * (k - 1));
      due("the last knot", x.line(0, k - 1, 0), 0);
      due("no knot", x.line(0, k, 0), BAD);
    }
  }

  private static void netForgetsLines() {
    LoadsUnseen x = made(2);
    x.line(2, 0, 1);
    x.reading(0, 4, 9);
    x.rate(0, 3);
    x.carried(0, 8);
    x.down(0, true);
    x.net(2);
    x.line(2, 1, 0);
    due("told 1", x.told(0, 1), 1);
    due("told 2", x.told(0, 2), 0);
    due("told 3", x.told(0, 3), 0);
    due("told 4", x.told(0, 4), NONE);
    due("told 5", x.told(0, 5), 100);
    due("mark", x.mark(0, 2), 0);
  }

  private static void line() {
    LoadsUnseen x = new LoadsUnseen();
    due("kind", x.line(-1, 0, 1), BAD);
    due("kind", x.line(4, 0, 1), BAD);
    due("kind", x.line(LEAST, 0, 1), BAD);
    due("same", x.line(0, 1, 1), BAD);
    due("from", x.line(0, -1, 1), BAD);
    due("from", x.line(0, 2, 1), BAD);
    due("to", x.line(0, 0, -1), BAD);
    due("to", x.line(0, 0, MOST), BAD);
    due("count", x.count(1), 0);
    for (int i = 0; i < 12; i++) due("line", x.line(i % 4, i % 2, 1 - i % 2), i);
    due("full", x.line(0, 0, 1), FULL);
    due("BAD ahead of FULL", x.line(9, 0, 1), BAD);
    due("BAD ahead of FULL", x.line(0, 1, 1), BAD);
    due("count", x.count(1), 12);
    due("told", x.told(11, 0), 3);
  }

  private static void told() {
    LoadsUnseen x = made(3);
    x.line(3, 2, 1);
    x.line(1, 0, 2);
    int[] dark = {3, 2, 1, 0, NONE, 100};
    for (int what = 0; what < 6; what++) due("told(0, " + what + ")", x.told(0, what), dark[what]);
    x.down(1, true);
    x.carried(1, 17);
    x.rate(1, 60000);
    int[] counted = {1, 0, 2, 1, 17, 60000};
    for (int what = 0; what < 6; what++) due("told(1, " + what + ")", x.told(1, what), counted[what]);
    for (int what : new int[] {LEAST, -1, 6, MOST}) due("what", x.told(0, what), BAD);
    for (int line : new int[] {LEAST, -1, 2, 12, MOST}) due("line", x.told(line, 0), BAD);
  }

  private static void mark() {
    LoadsUnseen x = made(3);
    for (int kind = 0; kind < 4; kind++) x.line(kind, 0, 1);
    x.reading(2, 0, 5);
    x.reading(2, 23, 5);
    int[][] due = {{-3, -3, -3}, {256, -3, -3}, {65536, 2, -3}, {-3, -3, 0}};
    for (int line = 0; line < 4; line++) {
      for (int kind = 1; kind < 4; kind++) {
        due("mark(" + line + ", " + kind + ")", x.mark(line, kind), due[line][kind - 1]);
      }
    }
    due("finding", x.finding(), UNLIKE);
    due("findings", x.findings(UNLIKE), 8);
    for (int kind : new int[] {LEAST, -1, 0, 4, MOST}) due("kind", x.mark(0, kind), BAD);
    for (int line : new int[] {LEAST, -1, 4, 12, MOST}) due("line", x.mark(line, 1), BAD);
    due("findings", x.findings(UNLIKE), 8);
    for (int line = 0; line < 3; line++) x.down(line, true);
    due("one pair", x.mark(3, 3), 1);
    x.line(0, 1, 2);
    due("two pairs", x.mark(3, 3), 2);
    x.line(0, 2, 0);
    due("three pairs", x.mark(3, 3), 3);
    x.down(3, true);
    due("down", x.mark(3, 3), 0);
  }

  private static void down() {
    LoadsUnseen x = made(2, 0, 1, 0, 1);
    due("down", x.down(0, true), 0);
    due("down", x.down(0, true), 1);
    due("told", x.told(0, 3), 1);
    due("route", x.route(0, 1, 0), 1);
    due("down", x.down(0, false), 1);
    due("down", x.down(0, false), 0);
    due("told", x.told(0, 3), 0);
    due("route", x.route(0, 1, 0), 0);
    for (int line : new int[] {LEAST, -1, 2, 12, MOST}) due("line", x.down(line, true), BAD);
  }

  private static void rate() {
    LoadsUnseen x = made(2, 0, 1);
    due("rate", x.rate(0, 0), 100);
    due("rate", x.rate(0, 60000), 0);
    for (int r : new int[] {LEAST, NONE, -1, 60001, MOST}) due("r", x.rate(0, r), BAD);
    for (int line : new int[] {LEAST, -1, 1, 12, MOST}) due("line", x.rate(line, 1), BAD);
    due("told", x.told(0, 5), 60000);
  }

  private static void reading() {
    LoadsUnseen x = made(2);
    for (int kind = 0; kind < 4; kind++) x.line(kind, 0, 1);
    due("reading", x.reading(1, 0, 255), NONE);
    due("reading", x.reading(1, 0, 256), 255);
    due("cut", x.reading(1, 0, MOST), 0);
    due("cut", x.reading(1, 0, NONE), 255);
    due("lost", x.reading(1, 0, NONE), NONE);
    due("reading", x.reading(2, 23, 65535), NONE);
    due("reading", x.reading(2, 23, 65536 + 300), 65535);
    due("cut", x.reading(2, 23, 0), 300);
    dueFinding(x, "no counter", 0, x.reading(0, 0, 1), UNLIKE);
    dueFinding(x, "no counter", 1, x.reading(3, 0, 1), UNLIKE);
    dueFinding(x, "UNLIKE ahead of BEYOND", 2, x.reading(3, 24, 1), UNLIKE);
    dueFinding(x, "no hour", 0, x.reading(1, -1, 1), BEYOND);
    dueFinding(x, "no hour", 1, x.reading(1, 24, NONE), BEYOND);
    dueFinding(x, "no hour", 2, x.reading(2, MOST, 1), BEYOND);
    for (int v : new int[] {LEAST, -10, -8, -1}) due("v", x.reading(1, 0, v), BAD);
    due("BAD ahead of BEYOND", x.reading(1, 24, -1), BAD);
    due("BAD ahead of UNLIKE", x.reading(0, 0, -1), BAD);
    for (int line : new int[] {LEAST, -1, 4, 12, MOST}) due("line", x.reading(line, 0, 1), BAD);
  }

  private static void load() {
    LoadsUnseen x = made(2);
    for (int kind = 0; kind < 4; kind++) x.line(kind, 0, 1);
    x.reading(1, 0, 200);
    x.reading(1, 1, 100);
    x.reading(1, 23, 100);
    due("a wrap", x.load(1, 0, 1), 1);
    due("asked", x.asked(), 156);
    due("no wrap", x.load(1, 1, 23), 0);
    due("asked", x.asked(), 0);
    x.rate(1, 255);
    due("just below", x.load(1, 0, 1), 1);
    x.rate(1, 256);
    due("not below", x.load(1, 0, 1), 0);
    x.reading(2, 2, 65535);
    x.reading(2, 4, 1);
    x.rate(2, 32767);
    due("just below", x.load(2, 2, 4), 1);
    due("asked", x.asked(), 2);
    x.rate(2, 32768);
    due("not below", x.load(2, 2, 4), 0);
    dueFinding(x, "no counter", 0, x.load(0, 0, 1), UNLIKE);
    dueFinding(x, "no counter", 1, x.load(3, 5, 1), UNLIKE);
    dueFinding(x, "no hour", 0, x.load(1, -1, 1), BEYOND);
    dueFinding(x, "no hour", 1, x.load(1, 0, 24), BEYOND);
    dueFinding(x, "alike", 2, x.load(1, 1, 1), BEYOND);
    dueFinding(x, "behind", 3, x.load(1, 1, 0), BEYOND);
    dueFinding(x, "BEYOND ahead of NOTHING", 4, x.load(1, 9, 9), BEYOND);
    dueFinding(x, "lost", 0, x.load(1, 0, 2), NOTHING);
    dueFinding(x, "lost", 1, x.load(1, 2, 23), NOTHING);
    for (int line : new int[] {LEAST, -1, 4, 12, MOST}) due("line", x.load(line, 0, 1), BAD);
    due("asked", x.asked(), 2);
  }

  private static void mean() {
    LoadsUnseen x = made(2);
    for (int kind = 0; kind < 4; kind++) x.line(kind, 0, 1);
    dueFinding(x, "none", 0, x.mean(1), NOUGHT);
    x.reading(1, 3, 250);
    dueFinding(x, "one", 1, x.mean(1), NOUGHT);
    x.reading(1, 5, 4);
    due("10 by 2", x.mean(1), 5);
    x.reading(1, 5, 3);
    due("9 by 2", x.mean(1), 4);
    x.reading(1, 5, 4);
    x.reading(1, 6, 3);
    due("265 by 3", x.mean(1), 88);
    x.reading(1, 0, 250);
    due("265 by 6", x.mean(1), 44);
    for (int hour = 0; hour < 24; hour++) x.reading(1, hour, hour < 22 ? NONE : 40 * hour);
    due("40 by 1", x.mean(1), 40);
    x.reading(2, 0, 65535);
    x.reading(2, 23, 65534);
    due("65535 by 23", x.mean(2), 2849);
    for (int hour = 0; hour < 24; hour++) x.reading(2, hour, 70000 - hour);
    due("all", x.mean(2), 65535);
    dueFinding(x, "no counter", 0, x.mean(0), UNLIKE);
    dueFinding(x, "no counter", 1, x.mean(3), UNLIKE);
    for (int line : new int[] {LEAST, -1, 4, 12, MOST}) due("line", x.mean(line), BAD);
  }

  private static void route() {
    LoadsUnseen x = made(5, 0, 1, 0, 2, 2, 4, 1, 4, 1, 3, 3, 4, 0, 1);
    due("how many", x.route(0, 4, -1), 2);
    due("the first by numbers", x.route(0, 4, 0), 0);
    due("the first by numbers", x.route(0, 4, 1), 3);
    due("none such", x.route(0, 4, 2), NONE);
    due("none such", x.route(0, 4, MOST), NONE);
    due("none such", x.route(0, 4, -2), NONE);
    x.down(0, true);
    due("the first by numbers", x.route(0, 4, 0), 1);
    due("the first by numbers", x.route(0, 4, 1), 2);
    due("the other one", x.route(0, 1, 0), 6);
    x.down(2, true);
    x.down(3, true);
    due("the long one", x.route(0, 4, -1), 3);
    int[] lines = {6, 4, 5};
    for (int i = 0; i < 3; i++) due("the long one", x.route(0, 4, i), lines[i]);
    due("cut", x.route(4, 0, -1), NONE);
    due("cut", x.route(4, 0, 0), NONE);
    for (int knot : new int[] {LEAST, -1, 5, 6, MOST}) {
      due("knot", x.route(knot, 1, 0), BAD);
      due("knot", x.route(1, knot, 0), BAD);
    }
    due("same", x.route(1, 1, -1), BAD);
    LoadsUnseen row = made(6, 4, 5, 3, 4, 2, 3, 1, 2, 0, 1);
    due("the longest", row.route(0, 5, -1), 5);
    for (int i = 0; i < 5; i++) due("the longest", row.route(0, 5, i), 4 - i);
  }

  private static void carried() {
    LoadsUnseen x = made(2);
    for (int kind = 0; kind < 4; kind++) x.line(kind, 0, 1);
    for (int line = 0; line < 3; line++) {
      due("carried", x.carried(line, 0), NONE);
      due("carried", x.carried(line, 200), 0);
      due("carried", x.carried(line, NONE), 200);
      due("carried", x.carried(line, 5), NONE);
    }
    due("told", x.told(0, 4), 5);
    due("count", x.count(2), 3);
    dueFinding(x, "dark", 0, x.carried(3, 5), UNLIKE);
    dueFinding(x, "dark", 1, x.carried(3, NONE), UNLIKE);
    due("BAD ahead of UNLIKE", x.carried(3, 201), BAD);
    for (int v : new int[] {LEAST, -10, -8, -1, 201, MOST}) due("v", x.carried(0, v), BAD);
    for (int line : new int[] {LEAST, -1, 4, 12, MOST}) due("line", x.carried(line, 1), BAD);
  }

  private static void meter() {
    LoadsUnseen x = chain();
    due("meter", x.meter(0, 2, 0), NONE);
    due("meter", x.meter(0, 2, 1), 0);
    due("fits", x.fits(10), 1);
    due("fit", x.fit(0, 2), 1);
    due("fit", x.fit(0, 1), 1);
    due("meter", x.meter(0, 2, 200), 1);
    due("fits", x.fits(10), 0);
    due("meter", x.meter(0, 2, NONE), 200);
    due("fits", x.fits(10), 1);
    due("a pair without a line that is told", x.meter(1, 0, 4), NONE);
    x.line(0, 1, 0);
    x.fits(10);
    due("fit", x.fit(1, 0), 4);
    for (int v : new int[] {LEAST, -10, -8, -1, 201, MOST}) due("v", x.meter(0, 1, v), BAD);
    for (int knot : new int[] {LEAST, -1, 3, 6, MOST}) {
      due("knot", x.meter(knot, 1, 0), BAD);
      due("knot", x.meter(1, knot, 0), BAD);
    }
    due("same", x.meter(2, 2, 0), BAD);
    due("count", x.count(3), 1);
  }

  private static void fits() {
    LoadsUnseen x = chain();
    // (0, 2) is the last on LINE 0: with (0, 1) 0 it would be 2, more than LINE 1 carries; then 1, 1, 0 is a FIT.
    due("fits", x.fits(4), 1);
    due("tries", x.tries(), 4);
    due("spent", x.fits(3), SPENT);
    due("tries", x.tries(), 3);
    due("fit behind SPENT", x.fit(0, 1), NONE);
    due("fits", x.fits(20000), 1);
    due("fit", x.fit(0, 1), 1);
    due("fit", x.fit(0, 2), 1);
    due("fit", x.fit(1, 2), 0);
    for (int n : new int[] {LEAST, -1, 0, 20001, MOST}) due("n", x.fits(n), BAD);
    due("fit behind BAD", x.fit(0, 1), 1);
    due("none", unfit().fits(100), 0);
    LoadsUnseen empty = made(2, 0, 1);
    due("nothing is told", empty.fits(1), 1);
    due("tries", empty.tries(), 0);
    LoadsUnseen down = made(2, 0, 1, 0, 1);
    down.carried(0, 3);
    down.down(0, true);
    due("left on a LINE that is DOWN", down.fits(1), 0);
    due("tries", down.tries(), 0);
    x.carried(0, NONE);
    x.carried(1, NONE);
    due("sought no more", x.fits(1), 1);
    due("is 0 again", x.fit(0, 1), 0);
    LoadsUnseen cut = made(2);
    cut.meter(0, 1, 9);
    due("a METERED PAIR that is CUT", cut.fits(1), 1);
    due("is 0", cut.fit(0, 1), 0);
  }

  private static void fit() {
    LoadsUnseen x = chain();
    due("before", x.fit(0, 1), NONE);
    x.many(100);
    x.sure(100);
    x.bound(0, 1, true, 100);
    x.meters(100);
    due("others tell none", x.fit(0, 1), NONE);
    x.fits(100);
    due("fit", x.fit(0, 1), 1);
    x.base(0, 1, 2);
    due("changed", x.changed(100), 1);
    due("fit", x.fit(0, 1), 2);
    x.many(100);
    x.many(1);
    due("others leave it", x.fit(0, 1), 2);
    x.carried(0, 1);
    due("what is told later leaves it", x.fit(0, 1), 2);
    due("spent", x.changed(1), SPENT);
    due("behind SPENT", x.fit(0, 1), NONE);
    x.fits(100);
    due("behind", x.fit(1, 0), 0);
    x.meter(0, 2, 9);
    x.fits(100);
    due("no FIT", x.fit(0, 1), NONE);
    for (int knot : new int[] {LEAST, -1, 3, 6, MOST}) {
      due("knot", x.fit(knot, 1), BAD);
      due("knot", x.fit(1, knot), BAD);
    }
    due("same", x.fit(0, 0), BAD);
  }

  private static void many() {
    LoadsUnseen x = chain();
    // (0, 1) is 0, 1, 2; (0, 2) none, 1, 0 then; (1, 2) 0, 1 then: 3 + 2 + 2 TRIES.
    due("many", x.many(7), 1);
    due("asked", x.asked(), 2);
    due("tries", x.tries(), 7);
    due("spent", x.many(6), SPENT);
    due("tries", x.tries(), 6);
    due("asked", x.asked(), 2);
    for (int n : new int[] {LEAST, -1, 0, 20001, MOST}) due("n", x.many(n), BAD);
    due("tries", x.tries(), 6);
    LoadsUnseen none = unfit();
    due("none", none.many(100), 1);
    due("asked", none.asked(), 0);
    LoadsUnseen big = made(3, 0, 1, 1, 2);
    big.carried(0, 200);
    due("many", big.many(20000), 1);
    due("asked", big.asked(), 201);
    due("tries", big.tries(), 402);
  }

  private static void bound() {
    LoadsUnseen x = chain();
    due("least", x.bound(0, 1, false, 7), 1);
    due("most", x.bound(0, 1, true, 7), 2);
    due("least", x.bound(1, 2, false, 7), 0);
    due("most", x.bound(1, 2, true, 7), 1);
    due("tries", x.tries(), 7);
    due("cut", x.bound(2, 0, true, 7), 0);
    due("spent", x.bound(0, 1, false, 6), SPENT);
    due("tries", x.tries(), 6);
    due("no FIT", unfit().bound(0, 1, false, 100), NONE);
    due("no FIT", unfit().bound(2, 0, true, 100), NONE);
    for (int n : new int[] {LEAST, -1, 0, 20001, MOST}) due("n", x.bound(0, 1, true, n), BAD);
    for (int knot : new int[] {LEAST, -1, 3, 6, MOST}) {
      due("knot", x.bound(knot, 1, true, 9), BAD);
      due("knot", x.bound(1, knot, false, 9), BAD);
    }
    due("same", x.bound(1, 1, true, 9), BAD);
  }

  private static void sure() {
    LoadsUnseen x = chain();
    due("none is", x.sure(7), 0);
    due("tries", x.tries(), 7);
    due("spent", x.sure(6), SPENT);
    due("tries", x.tries(), 6);
    x.line(0, 2, 0);
    x.carried(2, 0);
    due("those on a LINE with 0", x.sure(100), 3);
    x.meter(0, 2, 1);
    due("all", x.sure(100), 6);
    due("no FIT", unfit().sure(100), NONE);
    due("nothing told", made(3, 0, 1, 1, 2).sure(1), 3);
    for (int n : new int[] {LEAST, -1, 0, 20001, MOST}) due("n", x.sure(n), BAD);
  }

  private static void tries() {
    LoadsUnseen x = chain();
    due("before", x.tries(), 0);
    x.many(50);
    due("many", x.tries(), 7);
    x.fits(50);
    due("fits", x.tries(), 4);
    x.fits(0);
    x.many(-1);
    x.worst(0, 0, 5);
    due("behind BAD", x.tries(), 4);
    x.down(1, true);
    x.worst(0, 1, 5);
    due("behind STATE", x.tries(), 4);
    x.down(1, false);
    x.worst(0, 1, 5);
    due("behind SPENT", x.tries(), 5);
    x.guess(0, 1);
    x.carried(0, 1);
    due("behind others", x.tries(), 5);
    due("no FIT", unfit().tries(), 0);
    // A METERED PAIR whose number cannot be is no TRY: (0, 1) is 0, 1, 2, and (0, 2) never 2.
    LoadsUnseen none = unfit();
    none.fits(50);
    due("no FIT", none.tries(), 3);
  }

  private static void guess() {
    LoadsUnseen x = made(3, 0, 1, 1, 2, 0, 2, 2, 0);
    dueFinding(x, "nothing told", 0, x.guess(0, 1), NOUGHT);
    x.carried(0, 0);
    dueFinding(x, "0 told", 1, x.guess(0, 1), NOUGHT);
    x.carried(0, 10);
    x.carried(1, 7);
    x.carried(2, 3);
    due("13 by 10 by 20", x.guess(0, 1), 6);
    due("13 by 10 by 20", x.guess(0, 2), 6);
    due("7 by 10 by 20", x.guess(1, 2), 3);
    due("none out", x.guess(2, 0), 0);
    x.carried(3, 200);
    due("200 by 200 by 220", x.guess(2, 0), 181);
    due("7 by 200 by 220", x.guess(1, 0), 6);
    x.down(3, true);
    due("DOWN or not", x.guess(2, 0), 181);
    for (int knot : new int[] {LEAST, -1, 3, 6, MOST}) {
      due("knot", x.guess(knot, 1), BAD);
      due("knot", x.guess(1, knot), BAD);
    }
    due("same", x.guess(2, 2), BAD);
    due("BAD ahead of NOUGHT", made(2).guess(0, 0), BAD);
  }

  private static void base() {
    LoadsUnseen x = made(3, 0, 1);
    due("base", x.base(0, 1, 200), 0);
    due("base", x.base(0, 1, 0), 200);
    due("base", x.base(2, 1, 3), 0);
    due("another pair", x.base(1, 2, 4), 0);
    for (int v : new int[] {LEAST, NONE, -1, 201, MOST}) due("v", x.base(2, 1, v), BAD);
    for (int knot : new int[] {LEAST, -1, 3, 6, MOST}) {
      due("knot", x.base(knot, 1, 0), BAD);
      due("knot", x.base(1, knot, 0), BAD);
    }
    due("same", x.base(2, 2, 0), BAD);
    due("base", x.base(2, 1, 0), 3);
  }

  private static void changed() {
    LoadsUnseen x = chain();
    due("from 0", x.changed(7), 2);
    due("the first of two with 2", x.fit(0, 1), 1);
    due("tries", x.tries(), 7);
    x.base(0, 1, 2);
    x.base(1, 2, 1);
    due("alike", x.changed(7), 0);
    due("fit", x.fit(0, 1), 2);
    x.base(2, 0, 1);
    due("a PAIR that is CUT", x.changed(7), 1);
    x.base(1, 2, 5);
    due("two", x.changed(7), 2);
    due("spent", x.changed(6), SPENT);
    due("behind SPENT", x.fit(0, 1), NONE);
    LoadsUnseen none = unfit();
    due("no FIT", none.changed(100), NONE);
    due("no FIT", none.fit(0, 1), NONE);
    x.changed(7);
    for (int n : new int[] {LEAST, -1, 0, 20001, MOST}) due("n", x.changed(n), BAD);
    due("behind BAD", x.fit(0, 1), 2);
  }

  private static void worst() {
    // (0, 2) goes by LINE 2 now, by LINES 0 and 1 when that one goes DOWN; (0, 1) and (1, 2) stay.
    LoadsUnseen x = made(3, 0, 1, 1, 2, 0, 2);
    x.carried(0, 4);
    x.carried(1, 3);
    x.carried(2, 5);
    due("all there", x.worst(0, 2, 100), 9);
    due("tries", x.tries(), 3);
    due("all there", x.worst(1, 2, 100), 8);
    due("cut ones carry nothing", x.worst(2, 0, 100), 5);
    due("spent", x.worst(0, 2, 2), SPENT);
    due("fit behind SPENT", x.fit(0, 1), NONE);
    x.worst(0, 2, 3);
    due("fit", x.fit(0, 2), 5);
    due("same", x.worst(1, 1, 5), BAD);
    for (int line : new int[] {LEAST, -1, 3, 12, MOST}) {
      due("line", x.worst(line, 0, 5), BAD);
      due("other", x.worst(0, line, 5), BAD);
    }
    for (int n : new int[] {LEAST, -1, 0, 20001, MOST}) due("n", x.worst(0, 1, n), BAD);
    x.down(1, true);
    due("one is DOWN", x.worst(0, 1, 5), STATE);
    due("one is DOWN", x.worst(1, 0, 5), STATE);
    due("BAD ahead of STATE", x.worst(1, 0, 0), BAD);
    due("BAD ahead of STATE", x.worst(1, 1, 5), BAD);
    due("fit behind STATE", x.fit(0, 2), 5);
    due("no FIT", x.worst(0, 2, 100), NONE);
    due("fit", x.fit(0, 2), NONE);
    LoadsUnseen first = made(3, 0, 1, 1, 2, 0, 2);
    first.carried(0, 1);
    first.line(0, 2, 0);
    // On LINE 3 (2, 1) goes by 3 and 0 now: of (0, 1) and (2, 1), together 1, the most there is 1.
    due("the most", first.worst(3, 2, 100), 1);
    due("the first with the most", first.fit(0, 1), 0);
    due("the first with the most", first.fit(2, 1), 1);
  }

  private static void meters() {
    LoadsUnseen x = chain();
    // THE FIRST FIT by 4; of no PAIR 7; of (0, 1) alone 3: 1, then 1, then 0.
    due("meters", x.meters(14), 1);
    due("asked", x.asked(), 1L << 1);
    due("tries", x.tries(), 14);
    due("spent", x.meters(13), SPENT);
    due("tries", x.tries(), 13);
    due("spent in THE FIRST FIT", x.meters(3), SPENT);
    due("asked", x.asked(), 2);
    due("meter", x.meter(0, 1, 1), NONE);
    due("sure already", x.meters(100), 0);
    due("asked", x.asked(), 0);
    due("count(3) stays", x.count(3), 1);
    x.load(0, 0, 1);
    LoadsUnseen none = unfit();
    due("no FIT", none.meters(100), NONE);
    due("asked", none.asked(), 0);
    for (int n : new int[] {LEAST, -1, 0, 20001, MOST}) due("n", x.meters(n), BAD);
    LoadsUnseen far = made(6, 3, 5, 5, 4);
    far.carried(0, 1);
    // (3, 4) and (3, 5) share LINE 0; PAIR 22 is less than 23.
    due("meters", far.meters(100), 1);
    due("bits", far.asked(), 1L << 22);
    LoadsUnseen last = made(6, 4, 5, 5, 4, 3, 5, 5, 3);
    // With (3, 4), (3, 5) METERED, (4, 3) and (4, 5) share LINE 0, and (4, 3) is PAIR 27.
    for (int line = 0; line < 4; line++) last.carried(line, 1);
    last.meter(3, 4, 0);
    last.meter(3, 5, 1);
    due("METERED ones aside", last.meters(20000), 1);
    due("bits", last.asked(), 1L << 27);
  }

  private static void metersBeyondInt() {
    // Into 4 and out of 5 alone: (5, 4) is PAIR 34, (5, 3) 33.
    LoadsUnseen x = made(6, 5, 4, 4, 3);
    x.carried(0, 2);
    due("meters", x.meters(100), 1);
    due("bits", x.asked(), 1L << 33);
  }

  private static void sheet() {
    LoadsUnseen x = new LoadsUnseen();
    for (int s = 0; s < 4; s++) due("sheet", x.sheet(s, 8 * s), 8 * s);
    due("no byte", x.lay(0, 0, 1), FINDING);
    due("lay", x.lay(1, 7, 5), 1000);
    due("anew", x.sheet(1, 8), 8);
    due("bytes are 0", x.lay(1, 7, 5), 1000);
    due("fewer", x.sheet(1, 2), 2);
    due("more", x.sheet(1, 24), 24);
    due("bytes are 0", x.lay(1, 7, 5), 1000);
    dueFinding(x, "size", 0, x.sheet(0, -1), SIZE);
    dueFinding(x, "size", 1, x.sheet(0, LEAST), SIZE);
    due("above 24", x.sheet(0, 25), BAD);
    due("above 24", x.sheet(0, MOST), BAD);
    for (int s : new int[] {LEAST, -1, 4, MOST}) due("s", x.sheet(s, 1), BAD);
    due("BAD ahead of SIZE", x.sheet(4, -1), BAD);
    due("what is refused changes nothing", x.lay(1, 7, 5), 1005);
  }

  private static void lay() {
    LoadsUnseen x = new LoadsUnseen();
    dueFinding(x, "missing", 0, x.lay(3, 0, 1), NOTHING);
    dueFinding(x, "NOTHING ahead of BEYOND", 1, x.lay(3, -1, 1), NOTHING);
    x.sheet(3, 24);
    due("lay", x.lay(3, 23, 127), 1000);
    due("lay", x.lay(3, 23, 128), 1127);
    due("a byte below 0", x.lay(3, 23, 256), 872);
    due("cut", x.lay(3, 23, -1), 1000);
    due("cut", x.lay(3, 23, LEAST), 999);
    due("cut", x.lay(3, 23, 1), 1000);
    dueFinding(x, "beyond", 0, x.lay(3, 24, 1), BEYOND);
    dueFinding(x, "beyond", 1, x.lay(3, -1, 1), BEYOND);
    dueFinding(x, "beyond", 2, x.lay(3, MOST, 1), BEYOND);
    for (int s : new int[] {LEAST, -1, 4, MOST}) due("s", x.lay(s, 0, 1), BAD);
  }

  private static void play() {
    LoadsUnseen x = made(2);
    for (int kind = 0; kind < 4; kind++) x.line(kind, 0, 1);
    x.sheet(0, 3);
    x.lay(0, 0, 127);
    x.lay(0, 1, -128);
    x.lay(0, 2, -1);
    x.reading(2, 2, 900);
    x.reading(2, 3, 901);
    due("play", x.play(0, 1), 3);
    due("play", x.play(0, 2), 3);
    for (int line = 1; line < 3; line++) {
      due("reading 0", x.reading(line, 0, 0), 127);
      due("reading 1", x.reading(line, 1, 0), 128);
      due("reading 2", x.reading(line, 2, 0), 255);
    }
    due("others stay", x.reading(2, 3, 0), 901);
    due("others stay", x.reading(1, 3, 0), NONE);
    x.sheet(1, 24);
    due("a whole day", x.play(1, 1), 24);
    due("the last hour", x.reading(1, 23, 0), 0);
    x.sheet(1, 0);
    due("no byte", x.play(1, 1), 0);
    dueFinding(x, "no counter", 0, x.play(0, 0), UNLIKE);
    dueFinding(x, "no counter", 1, x.play(0, 3), UNLIKE);
    dueFinding(x, "UNLIKE ahead of NOTHING", 2, x.play(2, 0), UNLIKE);
    dueFinding(x, "missing", 0, x.play(2, 1), NOTHING);
    for (int s : new int[] {LEAST, -1, 4, MOST}) due("s", x.play(s, 1), BAD);
    for (int line : new int[] {LEAST, -1, 4, 12, MOST}) due("line", x.play(0, line), BAD);
    due("BAD ahead of UNLIKE", x.play(4, 0), BAD);
  }

  private static void tear() {
    LoadsUnseen x = new LoadsUnseen();
    dueFinding(x, "missing", 0, x.tear(0), NOTHING);
    x.sheet(0, 0);
    due("an empty one", x.tear(0), 1);
    dueFinding(x, "missing", 1, x.tear(0), NOTHING);
    x.sheet(3, 5);
    x.lay(3, 0, 9);
    due("tear", x.tear(3), 1);
    due("missing", x.lay(3, 0, 9), FINDING);
    x.sheet(3, 5);
    due("bytes are 0", x.lay(3, 0, 9), 1000);
    for (int s : new int[] {LEAST, -1, 4, MOST}) due("s", x.tear(s), BAD);
  }

  private static void copy() {
    LoadsUnseen x = new LoadsUnseen();
    x.sheet(0, 4);
    x.sheet(1, 2);
    for (int i = 0; i < 4; i++) x.lay(0, i, i + 1);
    due("to another", x.copy(0, 2, 1, 0, 2), 1);
    due("byte", x.lay(1, 0, 0), 1003);
    due("byte", x.lay(1, 1, 0), 1004);
    due("up itself", x.copy(0, 0, 0, 1, 3), 1);
    int[] up = {1, 1, 2, 3};
    for (int i = 0; i < 4; i++) due("byte", x.lay(0, i, i + 1), 1000 + up[i]);
    due("down itself", x.copy(0, 1, 0, 0, 3), 1);
    int[] down = {2, 3, 4, 4};
    for (int i = 0; i < 4; i++) due("byte", x.lay(0, i, i + 1), 1000 + down[i]);
    due("none, behind the last", x.copy(0, 4, 1, 2, 0), 1);
    dueFinding(x, "size", 0, x.copy(0, 0, 1, 0, -1), SIZE);
    dueFinding(x, "SIZE ahead of NOTHING", 1, x.copy(2, 0, 1, 0, LEAST), SIZE);
    dueFinding(x, "missing", 0, x.copy(2, 0, 1, 0, 1), NOTHING);
    dueFinding(x, "missing", 1, x.copy(0, 0, 3, 0, 1), NOTHING);
    dueFinding(x, "NOTHING ahead of BEYOND", 2, x.copy(0, 9, 3, 0, 1), NOTHING);
    dueFinding(x, "from beyond", 0, x.copy(0, 4, 1, 0, 1), BEYOND);
    dueFinding(x, "from beyond", 1, x.copy(0, -1, 1, 0, 1), BEYOND);
    dueFinding(x, "to beyond", 2, x.copy(0, 0, 1, 1, 2), BEYOND);
    dueFinding(x, "to beyond", 3, x.copy(0, 0, 1, -1, 1), BEYOND);
    dueFinding(x, "none, beyond", 4, x.copy(0, 5, 1, 0, 0), BEYOND);
    dueFinding(x, "great numbers", 5, x.copy(0, MOST, 1, 0, MOST), BEYOND);
    dueFinding(x, "great numbers", 6, x.copy(0, 0, 1, MOST, 1), BEYOND);
    dueFinding(x, "great numbers", 7, x.copy(0, LEAST, 1, 0, MOST), BEYOND);
    for (int s : new int[] {LEAST, -1, 4, MOST}) {
      due("s", x.copy(s, 0, 1, 0, 1), BAD);
      due("to", x.copy(1, 0, s, 0, 1), BAD);
    }
    due("BAD ahead of SIZE", x.copy(4, 0, 1, 0, -1), BAD);
  }

  private static void asked() {
    LoadsUnseen x = chain();
    due("before", x.asked(), 0);
    x.many(100);
    due("many", x.asked(), 2);
    x.many(1);
    x.many(0);
    x.meters(1);
    x.fits(100);
    x.changed(100);
    x.mean(0);
    x.load(0, 0, 1);
    due("refused ones and others leave it", x.asked(), 2);
    int counted = x.line(1, 0, 1);
    x.reading(counted, 0, 1);
    x.reading(counted, 1, 100);
    x.load(counted, 0, 1);
    due("load", x.asked(), 99);
    x.meter(0, 2, 2);
    due("NONE", x.meters(100), NONE);
    due("NONE leaves it", x.asked(), 99);
    x.meter(0, 2, NONE);
    x.meters(100);
    due("meters", x.asked(), 2);
  }

  private static void count() {
    LoadsUnseen x = made(4, 0, 1, 1, 2);
    x.carried(1, 0);
    x.meter(3, 0, 0);
    x.meter(0, 1, 5);
    x.meter(0, 3, 5);
    int[] due = {4, 2, 1, 3, 9};
    for (int what = 0; what < 5; what++) due("count(" + what + ")", x.count(what), due[what]);
    x.carried(1, NONE);
    x.meter(3, 0, NONE);
    x.down(0, true);
    int[] then = {4, 2, 0, 2, 11};
    for (int what = 0; what < 5; what++) due("count(" + what + ")", x.count(what), then[what]);
    for (int what : new int[] {LEAST, -1, 5, MOST}) due("what", x.count(what), BAD);
  }

  private static void finding() {
    LoadsUnseen x = made(2, 0, 1);
    due("before any", x.finding(), 0);
    x.mean(0);
    due("UNLIKE", x.finding(), UNLIKE);
    x.guess(0, 1);
    due("NOUGHT", x.finding(), NOUGHT);
    x.sheet(0, -1);
    due("SIZE", x.finding(), SIZE);
    x.tear(0);
    due("NOTHING", x.finding(), NOTHING);
    x.sheet(0, 1);
    x.lay(0, 1, 1);
    due("BEYOND", x.finding(), BEYOND);
    x.net(9);
    x.net(2);
    due("BAD and a new net leave it", x.finding(), BEYOND);
  }

  private static void findings() {
    LoadsUnseen x = made(2, 0, 1);
    for (int i = 0; i < 1; i++) x.tear(0);
    for (int i = 0; i < 3; i++) x.mean(0);
    for (int i = 0; i < 4; i++) x.guess(0, 1);
    for (int i = 0; i < 5; i++) x.sheet(0, -1);
    x.sheet(0, 1);
    for (int i = 0; i < 2; i++) x.lay(0, 1, 1);
    for (int f = 1; f <= 5; f++) due("findings(" + f + ")", x.findings(f), f);
    for (int f : new int[] {LEAST, -1, 0, 6, MOST}) due("f", x.findings(f), BAD);
    x.net(2);
    for (int f = 1; f <= 5; f++) due("behind a new net", x.findings(f), f);
  }

  private static void digest() {
    due("new", new LoadsUnseen().digest(), told(2, 0, 0, 0, 2, NONE, 0, NONE, 0, -1, -1, -1, -1));
    LoadsUnseen x = new LoadsUnseen();
    x.line(3, 1, 0);
    x.line(1, 0, 1);
    x.carried(1, 9);
    x.rate(1, 7);
    x.down(0, true);
    x.reading(1, 1, 300);
    x.meter(1, 0, 4);
    x.base(0, 1, 6);
    x.sheet(1, 2);
    x.lay(1, 0, 200);
    x.sheet(2, 0);
    long h = told(2, 2, 1, 1, 1, 3, 1, 0, 1, NONE, 100, 1, 0, 1, 0, 9, 7, NONE, 44);
    for (int hour = 2; hour < 24; hour++) h = 31 * h + NONE;
    for (int v : new int[] {NONE, 6, 4, 0, -1, 2, -56, 0, 0, -1}) h = 31 * h + v;
    due("digest", x.digest(), h);
    due("twice", x.digest(), h);
  }

  public static void main(String[] args) {
    promise = 1; newObject();
    promise = 2; net(); netForgetsLines();
    promise = 3; line();
    promise = 4; told();
    promise = 5; mark();
    promise = 6; down();
    promise = 7; rate();
    promise = 8; reading();
    promise = 9; load();
    promise = 10; mean();
    promise = 11; route();
    promise = 12; carried();
    promise = 13; meter();
    promise = 14; fits();
    promise = 15; fit();
    promise = 16; many();
    promise = 17; bound();
    promise = 18; sure();
    promise = 19; tries();
    promise = 20; guess();
    promise = 21; base();
    promise = 22; changed();
    promise = 23; worst();
    promise = 24; meters(); metersBeyondInt();
    promise = 25; sheet();
    promise = 26; lay();
    promise = 27; play();
    promise = 28; tear();
    promise = 29; copy();
    promise = 30; asked();
    promise = 31; count();
    promise = 32; finding();
    promise = 33; findings();
    promise = 34; digest();
    System.out.println(wrong == 0 ? "all answers are as due" : wrong + " answers are not as due");
    if (wrong != 0) System.exit(1);
  }
}
