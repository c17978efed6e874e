/** Promises 1 to 11, and what 'Terms' says of the net and of readings: each sentence that names a boundary. */
public final class EdgesOfNetTest extends Edge {

  // ---- 1 A new object

  private static void newObject() {
    sentence(1, "Two KNOTS (2 at first)");
    LoadsUnseen x = new LoadsUnseen();
    due("count(0)", x.count(0), 2);
    due("the last KNOT", x.line(0, 1, 0), 0);
    bad(LoadsUnseen::new, "the KNOT behind it", y -> y.line(0, 2, 0));
    sentence(1, "no LINES");
    due("count(1)", new LoadsUnseen().count(1), 0);
    bad(LoadsUnseen::new, "LINE 0", y -> y.told(0, 0));
    due("the first LINE", new LoadsUnseen().line(3, 0, 1), 0);
    due("both PAIRS are CUT", new LoadsUnseen().count(4), 2);
    sentence(1, "no SHEETS");
    for (int s = 0; s < 4; s++) {
      int sheet = s;
      found(LoadsUnseen::new, "tear(" + s + ")", NOTHING, y -> y.tear(sheet));
    }
    sentence(1, "nothing is told at first");
    LoadsUnseen y = new LoadsUnseen();
    due("count(2)", y.count(2), 0);
    due("count(3)", y.count(3), 0);
    due("asked()", y.asked(), 0);
    due("tries()", y.tries(), 0);
    due("finding()", y.finding(), 0);
    for (int f = 1; f <= 5; f++) due("findings(" + f + ")", y.findings(f), 0);
    due("fit(0, 1)", y.fit(0, 1), NONE);
    due("meter", y.meter(0, 1, NONE), NONE);
    due("base", y.base(0, 1, 0), 0);
  }

  // ---- 2 net

  private static void net() {
    sentence(2, "K 2 .. 6");
    for (int k = 2; k <= 6; k++) {
      LoadsUnseen x = rich();
      due("net(" + k + ")", x.net(k), k);
      due("count(0)", x.count(0), k);
      due("count(4)", x.count(4), k * (k - 1));
      due("the last KNOT", x.line(0, 0, k - 1), 0);
      due("the KNOT behind it", x.line(0, 0, k), BAD);
      due("the PAIR of it", x.meter(k, 0, 1), BAD);
    }
    sentence(2, "BAD");
    int[] none = {LEAST, NONE, -2, -1, 0, 1, 7, 8, MOST};
    for (int k : none) bad(Edge::rich, "net(" + k + ")", x -> x.net(k));
    sentence(2, "no LINES");
    LoadsUnseen x = full();
    due("the LINE behind the last", x.line(0, 0, 1), FULL);
    due("net(4)", x.net(4), 4);
    due("count(1)", x.count(1), 0);
    due("LINE 0", x.told(0, 0), BAD);
    for (int line = 0; line < 12; line++) due("again as many", x.line(0, 0, 1), line);
    due("the LINE behind the last", x.line(0, 0, 1), FULL);
  }

  private static void netTellsNothing() {
    sentence(2, "nothing told: of LINES");
    LoadsUnseen x = new LoadsUnseen();
    x.line(2, 0, 1);
    x.down(0, true);
    x.carried(0, 8);
    x.rate(0, 3);
    for (int hour = 0; hour < 24; hour++) x.reading(0, hour, 9);
    x.net(2);
    due("count(2)", x.count(2), 0);
    x.line(2, 1, 0);
    int[] due = {2, 1, 0, 0, NONE, 100};
    for (int what = 0; what <= 5; what++) due("told(0, " + what + ")", x.told(0, what), due[what]);
    due("READINGS", x.mark(0, 2), 0);
    for (int hour = 0; hour < 24; hour++) due("READING " + hour, x.reading(0, hour, NONE), NONE);
    sentence(2, "nothing told: of PAIRS");
    for (int k : new int[] {2, 6}) {
      LoadsUnseen y = new LoadsUnseen();
      y.net(6);
      for (int a = 0; a < 6; a++) for (int b = 0; b < 6; b++) if (a != b) y.meter(a, b, 5);
      for (int a = 0; a < 6; a++) for (int b = 0; b < 6; b++) if (a != b) y.base(a, b, 5);
      due("all are METERED", y.count(3), 30);
      y.net(k);
      due("none is", y.count(3), 0);
      for (int a = 0; a < k; a++) {
        for (int b = 0; b < k; b++) {
          if (a == b) continue;
          due("meter", y.meter(a, b, NONE), NONE);
          due("BASE", y.base(a, b, 0), 0);
        }
      }
    }
    sentence(2, "nothing told: SEEKING goes by what is told behind it");
    LoadsUnseen sought = full();
    for (int line = 0; line < 12; line++) sought.carried(line, 9);
    sought.fits(20000);
    sought.net(2);
    sought.line(0, 0, 1);
    due("fits(1)", sought.fits(1), 1);
    due("tries()", sought.tries(), 0);
    due("fit(0, 1)", sought.fit(0, 1), 0);
    sentence(2, "nothing told: no FIT");
    LoadsUnseen z = rich();
    z.net(4);
    for (int b = 1; b < 4; b++) due("fit(0, " + b + ")", z.fit(0, b), NONE);
    sentence(2, "a net (what is no part of it stays)");
    LoadsUnseen before = rich();
    LoadsUnseen behind = rich();
    behind.net(2);
    due("asked()", behind.asked(), before.asked());
    due("tries()", behind.tries(), before.tries());
    due("finding()", behind.finding(), before.finding());
    for (int f = 1; f <= 5; f++) due("findings(" + f + ")", behind.findings(f), before.findings(f));
    due("a SHEET's last byte", behind.lay(3, 23, 0), 1077);
    due("a SHEET of no bytes", behind.tear(1), 1);
    due("a SHEET that is missing", behind.tear(2), FINDING);
  }

  // ---- 3 line

  private static void line() {
    sentence(3, "of a KIND: 0, 1, 2, 3");
    for (int kind = 0; kind <= 3; kind++) {
      LoadsUnseen x = new LoadsUnseen();
      due("line(" + kind + ", 0, 1)", x.line(kind, 0, 1), 0);
      due("told(0, 0)", x.told(0, 0), kind);
    }
    for (int kind : new int[] {LEAST, NONE, -1, 4, MOST}) bad(Edge::rich, "KIND " + kind, x -> x.line(kind, 0, 1));
    sentence(3, "from a KNOT (0 .. K - 1) to another one");
    for (int k = 2; k <= 6; k++) {
      LoadsUnseen x = made(k, 0, k - 1, k - 1, 0);
      due("behind the last", x.line(0, k, 0), BAD);
      due("behind the last", x.line(0, 0, k), BAD);
      due("count(1)", x.count(1), 2);
    }
    for (int knot : NO_KNOT) {
      bad(Edge::rich, "from " + knot, x -> x.line(0, knot, 1));
      bad(Edge::rich, "to " + knot, x -> x.line(0, 1, knot));
      bad(Edge::rich, "from and to " + knot, x -> x.line(0, knot, knot));
    }
    sentence(3, "BAD: also the same KNOT");
    for (int knot = 0; knot < 4; knot++) {
      int same = knot;
      bad(Edge::rich, "line(0, " + knot + ", " + knot + ")", x -> x.line(0, same, same));
    }
    sentence(3, "its number: LINES 0, 1, .. (12 at most)");
    LoadsUnseen x = new LoadsUnseen();
    for (int line = 0; line < 12; line++) due("line", x.line(line % 4, line % 2, 1 - line % 2), line);
    due("count(1)", x.count(1), 12);
    due("the last one", x.told(11, 0), 3);
    sentence(3, "FULL");
    for (int kind = 0; kind <= 3; kind++) {
      int one = kind;
      refused(Edge::full, "the thirteenth", FULL, y -> y.line(one, 0, 1));
    }
    sentence(3, "the first of these that fits: BAD ahead of FULL");
    bad(Edge::full, "KIND", y -> y.line(4, 0, 1));
    bad(Edge::full, "from", y -> y.line(0, 4, 1));
    bad(Edge::full, "to", y -> y.line(0, 0, -1));
    bad(Edge::full, "the same KNOT", y -> y.line(0, 1, 1));
    sentence(3, "a new LINE: not DOWN, CARRIED not told, RATE 100, READINGS lost (at first)");
    LoadsUnseen z = new LoadsUnseen();
    z.line(2, 1, 0);
    int[] due = {2, 1, 0, 0, NONE, 100};
    for (int what = 0; what <= 5; what++) due("told(0, " + what + ")", z.told(0, what), due[what]);
    for (int hour = 0; hour < 24; hour++) due("READING " + hour, z.reading(0, hour, NONE), NONE);
  }

  // ---- 4 told

  private static void told() {
    sentence(4, "Of a LINE: 0 .. 5");
    LoadsUnseen x = made(6);
    x.line(3, 5, 4);
    x.line(1, 0, 5);
    x.down(1, true);
    x.carried(1, 0);
    x.rate(1, 0);
    int[][] due = {{3, 5, 4, 0, NONE, 100}, {1, 0, 5, 1, 0, 0}};
    for (int line = 0; line < 2; line++) {
      for (int what = 0; what <= 5; what++) due("told " + what, x.told(line, what), due[line][what]);
    }
    x.carried(1, 200);
    x.rate(1, 60000);
    x.down(1, false);
    due("the most CARRIED", x.told(1, 4), 200);
    due("the most RATE", x.told(1, 5), 60000);
    due("not DOWN", x.told(1, 3), 0);
    x.carried(1, NONE);
    due("not told any more", x.told(1, 4), NONE);
    sentence(4, "BAD: no such number");
    int[] none = {LEAST, NONE, -1, 6, MOST};
    for (int what : none) bad(Edge::rich, "told(0, " + what + ")", y -> y.told(0, what));
    sentence(4, "BAD: no such LINE");
    for (int line : NO_LINE) bad(Edge::rich, "told(" + line + ", 0)", y -> y.told(line, 0));
    LoadsUnseen full = full();
    due("the last of 12", full.told(11, 0), 3);
    due("behind it", full.told(12, 0), BAD);
    bad(Edge::rich, "neither", y -> y.told(5, 6));
  }

  // ---- 5 mark

  private static void mark() {
    sentence(5, "a COUNTED one (METERED, too) the size of its counter");
    due("COUNTED", kinds().mark(1, 1), 256);
    due("METERED", kinds().mark(2, 1), 65536);
    sentence(5, "a METERED one how many READINGS it has");
    LoadsUnseen x = kinds();
    due("none", x.mark(2, 2), 0);
    for (int hour = 0; hour < 24; hour++) {
      x.reading(2, hour, 0);
      due("up to " + hour, x.mark(2, 2), hour + 1);
    }
    x.reading(2, 23, 5);
    due("all, one anew", x.mark(2, 2), 24);
    x.reading(2, 0, NONE);
    due("one is lost", x.mark(2, 2), 23);
    sentence(5, "a DARK one how many PAIRS' ROUTES go there");
    due("none, by a LINE ahead", kinds().mark(3, 3), 0);
    LoadsUnseen ring = made(6, 0, 1, 1, 2, 2, 3, 3, 4, 4, 5);
    ring.line(3, 5, 0);
    due("of a ring of 6", ring.mark(5, 3), 15);
    ring.line(0, 5, 0);
    ring.line(0, 4, 0);
    due("(5, 0) .. (5, 4) alone", ring.mark(5, 3), 5);
    ring.down(5, true);
    due("none, DOWN", ring.mark(5, 3), 0);
    sentence(5, "BAD: also KIND 0");
    for (int line = 0; line < 5; line++) {
      int one = line;
      bad(Edge::rich, "mark(" + line + ", 0)", y -> y.mark(one, 0));
    }
    int[] none = {LEAST, NONE, -1, 4, MOST};
    for (int kind : none) bad(Edge::rich, "mark(1, " + kind + ")", y -> y.mark(1, kind));
    for (int line : NO_LINE) bad(Edge::rich, "mark(" + line + ", 1)", y -> y.mark(line, 1));
    sentence(5, "UNLIKE");
    int[][] unlike = {{0, 1}, {0, 2}, {0, 3}, {1, 2}, {1, 3}, {2, 3}, {3, 1}, {3, 2}};
    for (int[] one : unlike) {
      found(Edge::rich, "mark(" + one[0] + ", " + one[1] + ")", UNLIKE, y -> y.mark(one[0], one[1]));
    }
  }

  // ---- 6 down

  private static void down() {
    sentence(6, "A LINE is DOWN, or not: 1 if it was");
    LoadsUnseen x = made(2, 0, 1, 0, 1);
    due("not so", x.down(0, false), 0);
    due("DOWN", x.down(0, true), 0);
    due("again", x.down(0, true), 1);
    due("told", x.told(0, 3), 1);
    due("the other one", x.told(1, 3), 0);
    due("up", x.down(0, false), 1);
    due("again", x.down(0, false), 0);
    due("told", x.told(0, 3), 0);
    sentence(6, "none DOWN (ROUTES follow)");
    LoadsUnseen y = made(2, 0, 1);
    due("a ROUTE", y.route(0, 1, 0), 0);
    y.down(0, true);
    due("CUT", y.route(0, 1, 0), NONE);
    due("count(4)", y.count(4), 2);
    y.down(0, false);
    due("a ROUTE", y.route(0, 1, 0), 0);
    due("count(4)", y.count(4), 1);
    sentence(6, "any KIND, the first LINE and the last of 12");
    for (int line = 0; line < 12; line++) {
      LoadsUnseen full = full();
      due("down", full.down(line, true), line == 4 ? 1 : 0);
      due("told", full.told(line, 3), 1);
    }
    sentence(6, "BAD");
    for (int line : NO_LINE) {
      bad(Edge::rich, "down(" + line + ", true)", z -> z.down(line, true));
      bad(Edge::rich, "down(" + line + ", false)", z -> z.down(line, false));
    }
    bad(Edge::full, "behind the last of 12", z -> z.down(12, true));
  }

  // ---- 7 rate

  private static void rate() {
    sentence(7, "RATE 0 .. 60000; 100 at first: what it was");
    for (int line = 0; line < 4; line++) {
      LoadsUnseen x = kinds();
      due("at first", x.rate(line, 0), 100);
      due("the least", x.rate(line, 60000), 0);
      due("the most", x.rate(line, 1), 60000);
      due("told", x.told(line, 5), 1);
    }
    sentence(7, "BAD");
    int[] none = {LEAST, NONE, -1, 60001, 65536, MOST};
    for (int r : none) bad(Edge::rich, "rate(2, " + r + ")", x -> x.rate(2, r));
    for (int line : NO_LINE) bad(Edge::rich, "rate(" + line + ", 1)", x -> x.rate(line, 1));
  }

  // ---- 8 reading

  private static void reading() {
    sentence(8, "cut to its counter (0 .. 255, 0 .. 65535): what it was");
    int[][] counted = {
      {0, 0}, {1, 1}, {255, 255}, {256, 0}, {257, 1}, {65535, 255}, {65536, 0}, {MOST - 1, 254}, {MOST, 255}
    };
    for (int[] one : counted) dueReading(1, one[0], one[1]);
    int[][] metered = {{0, 0}, {256, 256}, {65535, 65535}, {65536, 0}, {65537, 1}, {MOST - 1, 65534}, {MOST, 65535}};
    for (int[] one : metered) dueReading(2, one[0], one[1]);
    sentence(8, "one for each HOUR 0 .. 23, or lost (at first); NONE: lost");
    for (int line = 1; line <= 2; line++) {
      LoadsUnseen x = kinds();
      for (int hour = 0; hour < 24; hour++) due("lost at first", x.reading(line, hour, 100 + hour), NONE);
      for (int hour = 0; hour < 24; hour++) due("its own", x.reading(line, hour, NONE), 100 + hour);
      for (int hour = 0; hour < 24; hour++) due("lost", x.reading(line, hour, NONE), NONE);
    }
    sentence(8, "BAD: the LINE");
    for (int line : NO_LINE) bad(Edge::rich, "reading(" + line + ", 0, 1)", x -> x.reading(line, 0, 1));
    bad(Edge::rich, "ahead of BEYOND", x -> x.reading(5, 24, 1));
    sentence(8, "BAD: v below 0 (not NONE)");
    for (int v : new int[] {LEAST, -65536, -256, -10, -8, -1}) bad(Edge::rich, "v " + v, x -> x.reading(1, 0, v));
    bad(Edge::rich, "ahead of UNLIKE", x -> x.reading(0, 0, -1));
    bad(Edge::rich, "ahead of UNLIKE", x -> x.reading(3, 24, -8));
    bad(Edge::rich, "ahead of BEYOND", x -> x.reading(1, 24, -10));
    sentence(8, "UNLIKE: it has no counter");
    found(Edge::rich, "KIND 0", UNLIKE, x -> x.reading(0, 0, 1));
    found(Edge::rich, "KIND 3", UNLIKE, x -> x.reading(3, 23, NONE));
    found(Edge::rich, "ahead of BEYOND", UNLIKE, x -> x.reading(3, 24, 1));
    sentence(8, "BEYOND: no HOUR");
    for (int hour : new int[] {LEAST, NONE, -1, 24, MOST}) {
      found(Edge::rich, "HOUR " + hour, BEYOND, x -> x.reading(1, hour, 1));
      found(Edge::rich, "HOUR " + hour + ", lost", BEYOND, x -> x.reading(2, hour, NONE));
    }
  }

  private static void dueReading(int line, int v, int kept) {
    LoadsUnseen x = kinds();
    due("first", x.reading(line, 7, v), NONE);
    due("reading " + v, x.reading(line, 7, 3), kept);
  }

  // ---- 9 load

  private static LoadsUnseen read(int line, int i, int first, int j, int then) {
    LoadsUnseen x = kinds();
    x.reading(line, i, first);
    x.reading(line, j, then);
    return x;
  }

  private static void load() {
    sentence(9, "what its counter at j is more than at i, by its wraps as few as can be");
    int[][] counted = {{0, 0, 0}, {255, 255, 0}, {0, 1, 1}, {0, 255, 255}, {255, 0, 1}, {1, 0, 255}, {255, 254, 255}};
    for (int[] one : counted) dueLoad(1, one[0], one[1], one[2]);
    int[][] metered = {{0, 0, 0}, {0, 65535, 65535}, {65535, 0, 1}, {1, 0, 65535}, {255, 0, 65281}, {65535, 65535, 0}};
    for (int[] one : metered) dueLoad(2, one[0], one[1], one[2]);
    sentence(9, "1 SURE, 0 not: RATE times the HOURS between is below the size of the counter (256, 65536)");
    int[][] sure = {
      {1, 255, 1, 1}, {1, 256, 1, 0}, {1, 127, 2, 1}, {1, 128, 2, 0}, {1, 11, 23, 1}, {1, 12, 23, 0}, {1, 0, 23, 1},
      {1, 60000, 1, 0}, {1, 1, 23, 1}, {2, 60000, 1, 1}, {2, 32767, 2, 1}, {2, 32768, 2, 0}, {2, 16383, 4, 1},
      {2, 16384, 4, 0}, {2, 2849, 23, 1}, {2, 2850, 23, 0}, {2, 0, 23, 1}, {2, 60000, 23, 0}
    };
    for (int[] one : sure) {
      LoadsUnseen x = read(one[0], 0, 5, one[2], 7);
      x.rate(one[0], one[1]);
      due("RATE " + one[1] + ", HOURS " + one[2], x.load(one[0], 0, one[2]), one[3]);
      due("SURE or not, it is told", x.asked(), 2);
    }
    sentence(9, "RATE 100 at first");
    due("2 HOURS", read(1, 5, 0, 7, 1).load(1, 5, 7), 1);
    due("3 HOURS", read(1, 5, 0, 8, 1).load(1, 5, 8), 0);
    sentence(9, "from HOUR i to j (i below j)");
    due("the first two", read(2, 0, 3, 1, 9).load(2, 0, 1), 1);
    due("the last two", read(2, 22, 3, 23, 9).load(2, 22, 23), 1);
    due("the first and the last", read(2, 0, 3, 23, 9).load(2, 0, 23), 1);
    LoadsUnseen between = read(1, 0, 200, 2, 200);
    between.reading(1, 1, 100);
    between.load(1, 0, 2);
    due("what is read between is not asked", between.asked(), 0);
  }

  private static void dueLoad(int line, int first, int then, int want) {
    LoadsUnseen x = read(line, 3, first, 4, then);
    due("load", x.load(line, 3, 4), 1);
    due(first + " to " + then, x.asked(), want);
  }

  private static void loadRefused() {
    sentence(9, "BAD");
    for (int line : NO_LINE) bad(Edge::rich, "load(" + line + ", 0, 1)", x -> x.load(line, 0, 1));
    bad(Edge::rich, "ahead of BEYOND", x -> x.load(5, 1, 1));
    sentence(9, "UNLIKE: it has no counter");
    found(Edge::rich, "KIND 0", UNLIKE, x -> x.load(0, 0, 1));
    found(Edge::rich, "KIND 3", UNLIKE, x -> x.load(3, 0, 1));
    found(Edge::rich, "ahead of BEYOND", UNLIKE, x -> x.load(0, 24, -1));
    sentence(9, "BEYOND: no HOURS");
    for (int hour : new int[] {LEAST, NONE, -1, 24, MOST}) {
      found(Edge::rich, "from HOUR " + hour, BEYOND, x -> x.load(1, hour, 23));
      found(Edge::rich, "to HOUR " + hour, BEYOND, x -> x.load(1, 0, hour));
    }
    sentence(9, "BEYOND: i not below j");
    found(Edge::rich, "alike", BEYOND, x -> x.load(1, 1, 1));
    found(Edge::rich, "one above", BEYOND, x -> x.load(1, 1, 0));
    found(Edge::rich, "far above", BEYOND, x -> x.load(1, 23, 0));
    found(Edge::rich, "alike, at the first HOUR", BEYOND, x -> x.load(1, 0, 0));
    found(Edge::rich, "alike, at the last HOUR", BEYOND, x -> x.load(1, 23, 23));
    found(Edge::rich, "ahead of NOTHING", BEYOND, x -> x.load(1, 9, 9));
    found(Edge::rich, "ahead of NOTHING", BEYOND, x -> x.load(1, 9, 24));
    sentence(9, "NOTHING: a READING is lost");
    found(Edge::rich, "the first", NOTHING, x -> x.load(1, 2, 23));
    found(Edge::rich, "the last", NOTHING, x -> x.load(1, 0, 22));
    found(Edge::rich, "both", NOTHING, x -> x.load(1, 2, 3));
    LoadsUnseen x = rich();
    x.reading(1, 1, NONE);
    due("lost again", x.load(1, 0, 1), FINDING);
    due("finding()", x.finding(), NOTHING);
  }

  // ---- 10 mean

  private static void mean() {
    sentence(10, "each two that follow: their LOAD");
    LoadsUnseen x = read(1, 0, 200, 1, 100);
    x.reading(1, 2, 0);
    due("two wraps: 156 and 156 by 2", x.mean(1), 156);
    x.reading(1, 1, NONE);
    due("lost ones aside: 56 by 2", x.mean(1), 28);
    LoadsUnseen alike = kinds();
    for (int hour = 0; hour < 24; hour++) alike.reading(1, hour, 255);
    due("all alike", alike.mean(1), 0);
    LoadsUnseen most = kinds();
    for (int hour = 0; hour < 24; hour++) most.reading(1, hour, 255 - hour);
    for (int hour = 0; hour < 24; hour++) most.reading(2, hour, 65535 - hour);
    due("the most of a byte", most.mean(1), 255);
    due("the most of two bytes", most.mean(2), 65535);
    sentence(10, "by the HOURS from the first to the last, cut");
    int[][] by23 = {{0, 0}, {22, 0}, {23, 1}, {45, 1}, {46, 2}, {255, 11}};
    for (int[] one : by23) due(one[0] + " by 23", read(1, 0, 0, 23, one[0]).mean(1), one[1]);
    due("by 1, at the first HOURS", read(1, 0, 0, 1, 255).mean(1), 255);
    due("by 1, at the last HOURS", read(1, 22, 0, 23, 255).mean(1), 255);
    due("by 2, cut", read(1, 21, 0, 23, 255).mean(1), 127);
    due("65535 by 23", read(2, 0, 1, 23, 0).mean(2), 2849);
    LoadsUnseen three = read(1, 2, 0, 6, 4);
    three.reading(1, 3, 1);
    due("by HOURS, not by READINGS", three.mean(1), 1);
    three.rate(1, 0);
    due("SURE or not", three.mean(1), 1);
    sentence(10, "NOUGHT: fewer than two READINGS");
    for (int line = 1; line <= 2; line++) {
      int one = line;
      found(Edge::kinds, "none", NOUGHT, y -> y.mean(one));
      found(() -> read(one, 0, NONE, 23, 9), "one, the last", NOUGHT, y -> y.mean(one));
      found(() -> read(one, 0, 9, 23, NONE), "one, the first", NOUGHT, y -> y.mean(one));
      due("two", read(line, 0, 9, 23, 9).mean(line), 0);
    }
    found(Edge::rich, "one", NOUGHT, y -> y.mean(2));
    sentence(10, "BAD; UNLIKE");
    for (int line : NO_LINE) bad(Edge::rich, "mean(" + line + ")", y -> y.mean(line));
    found(Edge::rich, "KIND 0, ahead of NOUGHT", UNLIKE, y -> y.mean(0));
    found(Edge::rich, "KIND 3, ahead of NOUGHT", UNLIKE, y -> y.mean(3));
    sentence(10, "what it tells is no asked()");
    LoadsUnseen told = rich();
    due("10 and 5 by 23", told.mean(1), 0);
    due("asked()", told.asked(), 10);
  }

  // ---- 11 route

  private static void dueRoute(LoadsUnseen x, int a, int b, int... lines) {
    due("how many of (" + a + ", " + b + ")", x.route(a, b, -1), lines.length);
    for (int i = 0; i < lines.length; i++) due("LINE " + i + " of (" + a + ", " + b + ")", x.route(a, b, i), lines[i]);
    due("behind the last", x.route(a, b, lines.length), NONE);
  }

  private static void dueCut(LoadsUnseen x, int a, int b) {
    for (int i = -1; i <= 5; i++) due("CUT (" + a + ", " + b + ")", x.route(a, b, i), NONE);
  }

  private static void route() {
    sentence(11, "that with the fewest LINES");
    dueRoute(made(4, 0, 1, 1, 2, 2, 3, 0, 3), 0, 3, 3);
    dueRoute(made(4, 0, 1, 1, 2, 2, 3, 1, 3), 0, 3, 0, 3);
    sentence(11, "of these the first (by numbers, place by place)");
    LoadsUnseen x = made(4, 2, 3, 0, 1, 0, 2, 1, 3, 1, 3);
    dueRoute(x, 0, 3, 1, 3);
    sentence(11, "none DOWN");
    x.down(3, true);
    dueRoute(x, 0, 3, 1, 4);
    x.down(4, true);
    dueRoute(x, 0, 3, 2, 0);
    x.down(0, true);
    dueCut(x, 0, 3);
    x.down(3, false);
    dueRoute(x, 0, 3, 1, 3);
    sentence(11, "the shortest and the longest");
    dueRoute(made(2, 1, 0), 1, 0, 0);
    dueRoute(made(6, 4, 5, 3, 4, 2, 3, 1, 2, 0, 1), 0, 5, 4, 3, 2, 1, 0);
    dueRoute(made(6, 0, 1, 1, 2, 2, 3, 3, 4, 4, 5, 5, 0), 5, 4, 5, 0, 1, 2, 3);
    LoadsUnseen ring = ring(0);
    for (int a = 0; a < 6; a++) {
      for (int b = 0; b < 6; b++) {
        if (a == b) continue;
        int[] lines = new int[(b - a + 6) % 6];
        for (int i = 0; i < lines.length; i++) lines[i] = (a + i) % 6;
        dueRoute(ring, a, b, lines);
      }
    }
    sentence(11, "from a to b (a LINE goes one way)");
    dueCut(made(2, 1, 0), 0, 1);
    dueCut(made(6, 0, 1, 1, 2, 2, 3, 3, 4, 4, 5), 5, 0);
    sentence(11, "no KNOT twice (a ring beside the way adds nothing)");
    dueRoute(made(4, 0, 1, 1, 0, 1, 2, 2, 1, 2, 3), 0, 3, 0, 2, 4);
    sentence(11, "none: the PAIR is CUT; NONE: it is CUT");
    dueCut(new LoadsUnseen(), 0, 1);
    LoadsUnseen full = made(6);
    for (int line = 0; line < 12; line++) full.line(0, 0, 1 + line % 4);
    dueRoute(full, 0, 4, 3);
    dueCut(full, 0, 5);
    dueCut(full, 5, 0);
  }

  private static void routeRefused() {
    sentence(11, "NONE: none such");
    for (int i : new int[] {3, 4, 5, 6, 36, MOST - 1, MOST}) due("route(0, 3, " + i + ")", rich().route(0, 3, i), NONE);
    for (int i : new int[] {-2, -3, NONE, LEAST}) due("route(0, 3, " + i + ")", rich().route(0, 3, i), NONE);
    sentence(11, "BAD");
    for (int knot : NO_KNOT) {
      bad(Edge::rich, "route(" + knot + ", 1, 0)", x -> x.route(knot, 1, 0));
      bad(Edge::rich, "route(1, " + knot + ", -1)", x -> x.route(1, knot, -1));
    }
    for (int knot = 0; knot < 4; knot++) {
      int same = knot;
      bad(Edge::rich, "the same KNOT", x -> x.route(same, same, -1));
      bad(Edge::rich, "the same KNOT", x -> x.route(same, same, 0));
    }
  }

  public static void main(String[] args) {
    newObject();
    net();
    netTellsNothing();
    line();
    told();
    mark();
    down();
    rate();
    reading();
    load();
    loadRefused();
    mean();
    route();
    routeRefused();
    end(1, 11);
  }
}
