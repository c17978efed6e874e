import java.util.ArrayList;
import java.util.List;

/** Promises 30 to 34, and ANSWERS of 'Terms': each sentence that names a boundary. */
public final class EdgesOfToldTest extends Edge {

  /** A chain beside a METERED LINE 2 with READINGS; asked() is 2. */
  private static LoadsUnseen asking() {
    LoadsUnseen x = chain();
    due("line", x.line(2, 0, 1), 2);
    x.reading(2, 0, 65535);
    x.reading(2, 1, 99);
    x.reading(2, 2, 99);
    due("many(7)", x.many(7), 1);
    return x;
  }

  // ---- 30 asked

  private static void asked() {
    sentence(30, "0 before");
    due("asked()", new LoadsUnseen().asked(), 0);
    due("asked()", chain().asked(), 0);
    sentence(30, "What the latest load(), many(), meters() told");
    LoadsUnseen x = asking();
    due("many", x.asked(), 2);
    due("load", x.load(2, 0, 1), 1);
    due("load", x.asked(), 100);
    due("load", x.load(2, 1, 2), 1);
    due("a load of 0", x.asked(), 0);
    x.rate(2, 60000);
    due("load, not SURE", x.load(2, 0, 2), 0);
    due("load, not SURE", x.asked(), 100);
    due("meters", x.meters(14), 1);
    due("meters", x.asked(), 1L << 1);
    x.meter(0, 2, 2);
    due("many, no FIT", x.many(7), 1);
    due("many, no FIT", x.asked(), 0);
    x.meter(0, 2, 1);
    x.load(2, 0, 1);
    due("meters, none", x.meters(20000), 0);
    due("meters, none", x.asked(), 0);
    sentence(30, "that was not refused");
    bad(EdgesOfToldTest::asking, "load", y -> y.load(3, 0, 1));
    bad(EdgesOfToldTest::asking, "many", y -> y.many(0));
    bad(EdgesOfToldTest::asking, "meters", y -> y.meters(20001));
    spent(EdgesOfToldTest::asking, "many", 6, y -> y.many(6));
    spent(EdgesOfToldTest::asking, "meters, in THE FIRST FIT", 3, y -> y.meters(3));
    spent(EdgesOfToldTest::asking, "meters, behind it", 13, y -> y.meters(13));
    found(EdgesOfToldTest::asking, "load", UNLIKE, y -> y.load(0, 0, 1));
    found(EdgesOfToldTest::asking, "load", BEYOND, y -> y.load(2, 1, 1));
    found(EdgesOfToldTest::asking, "load", NOTHING, y -> y.load(2, 2, 3));
    sentence(30, "nor NONE");
    LoadsUnseen none = asking();
    none.meter(0, 2, 2);
    due("meters", none.meters(20000), NONE);
    due("asked()", none.asked(), 2);
    sentence(30, "others leave it");
    LoadsUnseen others = asking();
    others.fits(100);
    others.bound(0, 1, true, 100);
    others.sure(100);
    others.changed(100);
    others.worst(0, 1, 100);
    others.mean(2);
    others.guess(0, 1);
    others.net(2);
    due("asked()", others.asked(), 2);
  }

  // ---- 31 count

  private static void dueCounts(LoadsUnseen x, int... counts) {
    for (int what = 0; what <= 4; what++) due("count(" + what + ")", x.count(what), counts[what]);
  }

  private static void count() {
    sentence(31, "0 K, 1 LINES, 2 of which CARRIED is told, 3 PAIRS that are METERED, 4 PAIRS that are CUT");
    dueCounts(new LoadsUnseen(), 2, 0, 0, 0, 2);
    dueCounts(made(6), 6, 0, 0, 0, 30);
    dueCounts(rich(), 4, 5, 2, 1, 0);
    LoadsUnseen most = made(6, 0, 1, 1, 2, 2, 3, 3, 4, 4, 5, 5, 0);
    for (int line = 6; line < 12; line++) most.line(0, 0, 5);
    for (int line = 0; line < 12; line++) most.carried(line, 0);
    for (int a = 0; a < 6; a++) for (int b = 0; b < 6; b++) if (a != b) most.meter(a, b, 0);
    dueCounts(most, 6, 12, 12, 30, 0);
    most.down(11, true);
    most.carried(11, NONE);
    most.meter(5, 4, NONE);
    dueCounts(most, 6, 12, 11, 29, 0);
    for (int line = 0; line < 12; line++) most.down(line, true);
    dueCounts(most, 6, 12, 11, 29, 30);
    sentence(31, "BAD");
    int[] none = {LEAST, NONE, -1, 5, 6, MOST};
    for (int what : none) bad(Edge::rich, "count(" + what + ")", x -> x.count(what));
  }

  // ---- 32 finding

  /** Calls that answer FINDINGS 1 to 5 in rich(). */
  private static final Call[] FOUND = {
    x -> x.tear(2), x -> x.lay(0, 3, 1), x -> x.mark(0, 3), x -> x.mean(2), x -> x.sheet(0, -1)
  };

  private static void finding() {
    sentence(32, "0 before any");
    due("finding()", new LoadsUnseen().finding(), 0);
    LoadsUnseen none = chain();
    none.net(9);
    none.worst(0, 0, 5);
    none.many(1);
    none.fits(20000);
    due("refused, but no FINDING", none.finding(), 0);
    sentence(32, "The latest FINDING: 1 NOTHING, 2 BEYOND, 3 UNLIKE, 4 NOUGHT, 5 SIZE");
    for (int first = 1; first <= 5; first++) {
      for (int then = 1; then <= 5; then++) {
        LoadsUnseen x = rich();
        due("a FINDING", FOUND[first - 1].on(x), FINDING);
        due("finding()", x.finding(), first);
        due("a FINDING", FOUND[then - 1].on(x), FINDING);
        due("finding()", x.finding(), then);
      }
    }
    sentence(32, "other answers leave it");
    LoadsUnseen x = rich();
    due("SIZE", x.sheet(0, -1), FINDING);
    due("not refused", x.sheet(0, 1), 1);
    due("BAD", x.sheet(0, 25), BAD);
    due("SPENT", x.many(1), SPENT);
    due("STATE", x.worst(0, 4, 5), STATE);
    due("NONE", x.route(0, 1, 5), NONE);
    due("a new net", x.net(2), 2);
    due("finding()", x.finding(), SIZE);
  }

  // ---- 33 findings

  private static void findings() {
    sentence(33, "How often a FINDING (1 .. 5) was answered");
    for (int f = 1; f <= 5; f++) {
      LoadsUnseen x = rich();
      int[] before = new int[6];
      for (int g = 1; g <= 5; g++) before[g] = x.findings(g);
      for (int i = 0; i < 80; i++) due("a FINDING", FOUND[f - 1].on(x), FINDING);
      for (int g = 1; g <= 5; g++) due("findings(" + g + ")", x.findings(g), before[g] + (g == f ? 80 : 0));
    }
    sentence(33, "0 before any");
    for (int f = 1; f <= 5; f++) due("findings(" + f + ")", new LoadsUnseen().findings(f), 0);
    sentence(33, "a new net leaves them");
    LoadsUnseen x = rich();
    for (Call one : FOUND) one.on(x);
    x.net(3);
    int[] due = {2, 1, 2, 1, 1};
    for (int f = 1; f <= 5; f++) due("findings(" + f + ")", x.findings(f), due[f - 1]);
    sentence(33, "BAD");
    int[] none = {LEAST, NONE, -1, 0, 6, MOST};
    for (int f : none) bad(Edge::rich, "findings(" + f + ")", y -> y.findings(f));
  }

  // ---- 34 digest

  private static long digestOf(List<Integer> values) {
    long h = 17;
    for (int v : values) h = 31 * h + v;
    return h;
  }

  private static void add(List<Integer> all, int... values) {
    for (int v : values) all.add(v);
  }

  private static void times(List<Integer> all, int n, int... values) {
    for (int i = 0; i < n; i++) add(all, values);
  }

  private static void digest() {
    sentence(34, "count() 0 to 4; no LINES; each PAIR; each SHEET -1: missing");
    List<Integer> fresh = new ArrayList<>();
    add(fresh, 2, 0, 0, 0, 2, NONE, 0, NONE, 0, -1, -1, -1, -1);
    due("a new one", new LoadsUnseen().digest(), digestOf(fresh));
    List<Integer> wide = new ArrayList<>();
    add(wide, 6, 0, 0, 0, 30);
    times(wide, 30, NONE, 0);
    times(wide, 4, -1);
    due("6 KNOTS", made(6).digest(), digestOf(wide));
    sentence(34, "of each LINE told() 0 to 5 and its READINGS (KIND 1, 2: 24, NONE: lost)");
    for (int kind = 0; kind <= 3; kind++) {
      LoadsUnseen x = new LoadsUnseen();
      x.line(kind, 1, 0);
      List<Integer> one = new ArrayList<>();
      add(one, 2, 1, 0, 0, 1, kind, 1, 0, 0, NONE, 100);
      if (kind == 1 || kind == 2) times(one, 24, NONE);
      add(one, NONE, 0, NONE, 0, -1, -1, -1, -1);
      due("KIND " + kind, x.digest(), digestOf(one));
    }
    sentence(34, "of each PAIR (a, b unlike, by numbers) its meter (NONE) and BASE");
    LoadsUnseen pairs = made(3);
    List<Integer> told = new ArrayList<>();
    add(told, 3, 0, 0, 5, 6);
    int v = 0;
    for (int a = 0; a < 3; a++) {
      for (int b = 0; b < 3; b++) {
        if (a == b) continue;
        v++;
        pairs.base(a, b, 200 - v);
        if (v != 4) pairs.meter(a, b, v);
        add(told, v == 4 ? NONE : v, 200 - v);
      }
    }
    times(told, 4, -1);
    due("6 PAIRS", pairs.digest(), digestOf(told));
    sentence(34, "of each SHEET its size (-1: missing) and bytes");
    LoadsUnseen sheets = new LoadsUnseen();
    sheets.sheet(0, 0);
    sheets.sheet(1, 24);
    sheets.sheet(3, 2);
    sheets.lay(1, 23, 127);
    sheets.lay(3, 0, 128);
    sheets.lay(3, 1, 255);
    List<Integer> bytes = new ArrayList<>();
    add(bytes, 2, 0, 0, 0, 2, NONE, 0, NONE, 0, 0, 24);
    times(bytes, 23, 0);
    add(bytes, 127, -1, 2, -128, -1);
    due("0, 24 bytes, missing, 2 bytes", sheets.digest(), digestOf(bytes));
    sheets.tear(1);
    List<Integer> torn = new ArrayList<>();
    add(torn, 2, 0, 0, 0, 2, NONE, 0, NONE, 0, 0, -1, -1, 2, -128, -1);
    due("torn", sheets.digest(), digestOf(torn));
  }

  private static void digestOfMost() {
    sentence(34, "all that there can be (h wraps)");
    LoadsUnseen x = made(6);
    List<Integer> all = new ArrayList<>();
    add(all, 6, 12, 12, 30, 29);
    for (int line = 0; line < 12; line++) {
      x.line(2, 0, 5);
      x.carried(line, 200);
      x.rate(line, 60000);
      add(all, 2, 0, 5, line < 11 ? 1 : 0, 200, 60000);
      for (int hour = 0; hour < 24; hour++) x.reading(line, hour, 65535 - hour);
      for (int hour = 0; hour < 24; hour++) all.add(65535 - hour);
      if (line < 11) x.down(line, true);
    }
    for (int a = 0; a < 6; a++) for (int b = 0; b < 6; b++) if (a != b) x.meter(a, b, 200);
    x.base(5, 4, 200);
    times(all, 29, 200, 0);
    add(all, 200, 200);
    for (int s = 0; s < 4; s++) x.sheet(s, 24);
    x.lay(3, 23, -128);
    for (int s = 0; s < 4; s++) {
      add(all, 24);
      times(all, 23, 0);
      add(all, s == 3 ? -128 : 0);
    }
    due("digest()", x.digest(), digestOf(all));
    due("again", x.digest(), digestOf(all));
    sentence(34, "it changes nothing");
    LoadsUnseen y = rich();
    y.digest();
    same("digest()", y, state(rich()));
  }

  // ---- ANSWERS

  private static void constants() {
    sentence(0, "BAD -1, FULL -2, STATE -4, SPENT -6, FINDING -3. NONE -9");
    due("BAD", LoadsUnseen.BAD, -1);
    due("FULL", LoadsUnseen.FULL, -2);
    due("STATE", LoadsUnseen.STATE, -4);
    due("SPENT", LoadsUnseen.SPENT, -6);
    due("FINDING", LoadsUnseen.FINDING, -3);
    due("NONE", LoadsUnseen.NONE, -9);
  }

  private static void calls() {
    sentence(0, "An object is used for at most 512 calls after it has been made");
    LoadsUnseen x = new LoadsUnseen();
    due("call 1", x.line(0, 0, 1), 0);
    for (int call = 2; call <= 511; call++) due("call " + call, x.down(0, call % 2 == 0), call % 2);
    due("call 512", x.told(0, 3), 0);
    sentence(0, "what one object is told, another one is not");
    LoadsUnseen other = new LoadsUnseen();
    long fresh = other.digest();
    rich();
    full();
    due("digest()", other.digest(), fresh);
    due("finding()", other.finding(), 0);
    due("tries()", other.tries(), 0);
  }

  public static void main(String[] args) {
    asked();
    count();
    finding();
    findings();
    digest();
    digestOfMost();
    constants();
    calls();
    end(30, 34);
  }
}
