import java.util.LinkedHashMap;
import java.util.Map;
import java.util.TreeSet;

/**
 * What the tests of edges share. Each names the promise and the document's sentence ahead of its calls. A refused call
 * is made on an object of its own; a twin, made by the same calls, tells what must be as it was. So no object is
 * called more than 512 times.
 */
class Edge {
  static final int BAD = -1, FULL = -2, FINDING = -3, STATE = -4, SPENT = -6, NONE = -9;
  static final int NOTHING = 1, BEYOND = 2, UNLIKE = 3, NOUGHT = 4, SIZE = 5;
  static final int LEAST = Integer.MIN_VALUE, MOST = Integer.MAX_VALUE;
  /** Beside what can be, in rich(). */
  static final int[] NO_LINE = {LEAST, NONE, -1, 5, 12, MOST};
  static final int[] NO_KNOT = {LEAST, NONE, -1, 4, 6, MOST};
  static final int[] NO_TRIES = {LEAST, NONE, -1, 0, 20001, MOST};
  static final int[] NO_LOAD = {LEAST, -10, -8, -1, 201, MOST};
  static final int[] NO_SHEET = {LEAST, NONE, -1, 4, MOST};

  private static final TreeSet<Integer> NAMED = new TreeSet<>();
  private static int wrong = 0;
  private static int looked = 1;
  private static int promise = 0;
  private static String sentence = "";

  interface Call {
    long on(LoadsUnseen x);
  }

  interface Made {
    LoadsUnseen anew();
  }

  // ---- sentences

  /** The number is that of the promise; 0 stands for 'Terms' and what is said of all calls. */
  static void sentence(int number, String words) {
    requireLooked();
    promise = number;
    sentence = words;
    looked = 0;
    NAMED.add(number);
  }

  private static void requireLooked() {
    if (looked == 0) wrong("nothing was looked at");
  }

  private static void wrong(String what) {
    wrong++;
    String where = promise == 0 ? "terms" : "promise " + promise;
    if (wrong <= 60) System.out.println(where + " [" + sentence + "]: " + what);
  }

  static void due(String call, long got, long want) {
    looked++;
    if (got != want) wrong(call + " answered " + got + ", due is " + want);
  }

  /** Ends the test; all promises from one to another must have been named. */
  static void end(int from, int to) {
    requireLooked();
    for (int number = from; number <= to; number++) {
      if (!NAMED.contains(number)) wrong("no sentence of promise " + number);
    }
    System.out.println(wrong == 0 ? "all answers are as due" : wrong + " answers are not as due");
    if (wrong != 0) System.exit(1);
  }

  // ---- refused calls

  static void refused(Made made, String call, int want, Call asked) {
    LoadsUnseen x = made.anew();
    Map<String, Long> before = state(made.anew());
    due(call, asked.on(x), want);
    same(call, x, before);
  }

  static void bad(Made made, String call, Call asked) {
    refused(made, call, BAD, asked);
  }

  static void found(Made made, String call, int which, Call asked) {
    LoadsUnseen x = made.anew();
    Map<String, Long> before = state(made.anew());
    before.put("finding()", (long) which);
    before.merge("findings(" + which + ")", 1L, Long::sum);
    due(call, asked.on(x), FINDING);
    same(call, x, before);
  }

  /** SPENT of a call that tells no FIT: tries() alone is another. */
  static void spent(Made made, String call, int n, Call asked) {
    spentSo(made, call, n, asked, false);
  }

  /** SPENT of fits(), changed(), worst(): the latest of them told no FIT then. */
  static void spentNoFit(Made made, String call, int n, Call asked) {
    spentSo(made, call, n, asked, true);
  }

  private static void spentSo(Made made, String call, int n, Call asked, boolean tellsFit) {
    LoadsUnseen x = made.anew();
    Map<String, Long> before = state(made.anew());
    before.put("tries()", (long) n);
    if (tellsFit) before.replaceAll((name, v) -> name.startsWith("fit(") ? Long.valueOf(NONE) : v);
    due(call, asked.on(x), SPENT);
    same(call, x, before);
  }

  /** An object tells of itself what is due. */
  static void same(String call, LoadsUnseen x, Map<String, Long> want) {
    Map<String, Long> got = state(x);
    if (!got.keySet().equals(want.keySet())) wrong(call + " made another net");
    want.forEach((name, v) -> {
      if (got.containsKey(name)) due(call + ", then " + name, got.get(name), v);
    });
  }

  /** What an object tells without being changed; READINGS, meters, BASE and SHEETS are in its digest. */
  static Map<String, Long> state(LoadsUnseen x) {
    Map<String, Long> all = new LinkedHashMap<>();
    all.put("digest()", x.digest());
    all.put("asked()", x.asked());
    all.put("tries()", (long) x.tries());
    all.put("finding()", (long) x.finding());
    for (int f = 1; f <= 5; f++) all.put("findings(" + f + ")", (long) x.findings(f));
    for (int what = 0; what <= 4; what++) all.put("count(" + what + ")", (long) x.count(what));
    for (int line = 0; line < x.count(1); line++) {
      for (int what = 0; what <= 5; what++) all.put("told(" + line + ", " + what + ")", (long) x.told(line, what));
    }
    for (int a = 0; a < x.count(0); a++) for (int b = 0; b < x.count(0); b++) if (a != b) putPair(all, x, a, b);
    return all;
  }

  private static void putPair(Map<String, Long> all, LoadsUnseen x, int a, int b) {
    all.put("fit(" + a + ", " + b + ")", (long) x.fit(a, b));
    int lines = x.route(a, b, -1);
    all.put("route(" + a + ", " + b + ", -1)", (long) lines);
    for (int i = 0; i < lines; i++) all.put("route(" + a + ", " + b + ", " + i + ")", (long) x.route(a, b, i));
  }

  // ---- objects

  /** KNOTS 0 .. k - 1, and LINES of KIND 0 by two numbers each. */
  static LoadsUnseen made(int k, int... ends) {
    LoadsUnseen x = new LoadsUnseen();
    due("net(" + k + ")", x.net(k), k);
    for (int i = 0; i < ends.length; i += 2) due("line", x.line(0, ends[i], ends[i + 1]), i / 2);
    return x;
  }

  /** LINE n is of KIND n; all go from KNOT 0 to 1. */
  static LoadsUnseen kinds() {
    LoadsUnseen x = new LoadsUnseen();
    for (int kind = 0; kind <= 3; kind++) due("line", x.line(kind, 0, 1), kind);
    return x;
  }

  /** All is told that can be, so that what is refused has something to spoil. */
  static LoadsUnseen rich() {
    LoadsUnseen x = new LoadsUnseen();
    x.net(4);
    x.line(0, 0, 1);
    x.line(1, 1, 2);
    x.line(2, 2, 3);
    x.line(3, 3, 0);
    x.line(0, 0, 2);
    x.down(4, true);
    x.rate(2, 7);
    x.carried(0, 3);
    x.carried(1, 2);
    x.reading(1, 0, 250);
    x.reading(1, 1, 4);
    x.reading(1, 23, 9);
    x.reading(2, 5, 65535);
    x.meter(0, 3, 1);
    x.base(0, 1, 2);
    x.base(3, 2, 200);
    x.sheet(0, 3);
    for (int i = 0; i < 3; i++) x.lay(0, i, i - 1);
    x.sheet(1, 0);
    x.sheet(3, 24);
    x.lay(3, 23, 77);
    x.tear(2);
    x.mark(0, 1);
    x.load(1, 0, 1);
    due("a rich one has a FIT", x.fits(20000), 1);
    return x;
  }

  /** As many LINES as there can be, all told of as in rich(). */
  static LoadsUnseen full() {
    LoadsUnseen x = rich();
    for (int line = 5; line < 12; line++) x.line(line % 4, line % 3, 3);
    return x;
  }

  /** 0 -> 1 -> 2 that carry 2 and 1. TRIES of all FITS: (0, 1) 0, 1, 2; (0, 2) none, 1, 0; (1, 2) none, 0, 1: 7. */
  static LoadsUnseen chain() {
    LoadsUnseen x = made(3, 0, 1, 1, 2);
    x.carried(0, 2);
    x.carried(1, 1);
    return x;
  }

  /** A chain with a FIT told, (0, 1) 1, (0, 2) 1, (1, 2) 0, by 4 TRIES, and asked() 2; the other FIT is 2, 0, 1. */
  static LoadsUnseen sought() {
    LoadsUnseen x = chain();
    due("many(7)", x.many(7), 1);
    due("fits(4)", x.fits(4), 1);
    return x;
  }

  /** The same, but with no FIT any more, by 3 TRIES: (0, 1) is 0, 1, 2, and (0, 2) never 2. */
  static LoadsUnseen unfit() {
    LoadsUnseen x = sought();
    due("meter", x.meter(0, 2, 2), NONE);
    return x;
  }

  /** What the PAIRS of a chain are in the FIT that is told. */
  static void dueFit(LoadsUnseen x, int first, int second, int third) {
    due("fit(0, 1)", x.fit(0, 1), first);
    due("fit(0, 2)", x.fit(0, 2), second);
    due("fit(1, 2)", x.fit(1, 2), third);
  }

  /**
   * All FITS by just 20000 TRIES: (2, 3) and (2, 4) share LINE 0, which carries 99, (5, 3) and (5, 4) LINE 1, which
   * carries 98: 100 + 100 + 100 times (99 + 99). (0, 1) goes by LINE 3 alone; METERED, it is one TRY more, ahead.
   */
  static LoadsUnseen long20000() {
    LoadsUnseen x = made(6, 2, 3, 5, 3, 3, 4, 0, 1);
    x.carried(0, 99);
    x.carried(1, 98);
    return x;
  }

  static LoadsUnseen long20001() {
    LoadsUnseen x = long20000();
    x.meter(0, 1, 7);
    return x;
  }

  /** LINE a goes from KNOT a to the next one, of 6; each carries so much. All 30 PAIRS are sought. */
  static LoadsUnseen ring(int v) {
    LoadsUnseen x = made(6, 0, 1, 1, 2, 2, 3, 3, 4, 4, 5, 5, 0);
    for (int line = 0; line < 6; line++) x.carried(line, v);
    return x;
  }

  /** By as many TRIES no FIT: a LINE beside LINE 0 carries 1, but no ROUTE goes there. */
  static LoadsUnseen withNoFit(LoadsUnseen x) {
    x.carried(x.line(0, x.told(0, 1), x.told(0, 2)), 1);
    return x;
  }
}
