import java.util.Random;

/**
 * Made-up runs of calls, of 512 at most, on an object and on the Model: each answer of each call is the same, and all
 * that can be told at the end of a run.
 */
public final class WholeRunsTest {
  private static final int RUNS = 400, CALLS = 430, NONE = -9;
  private static final int[] WILD = {
    Integer.MIN_VALUE, -257, -129, -10, -9, -8, -2, -1, 0, 1, 2, 3, 4, 5, 6, 7, 11, 12, 13, 23, 24, 25, 127, 128, 200,
    201, 255, 256, 257, 19999, 20000, 20001, 59999, 60000, 60001, 65535, 65536, 65537, Integer.MAX_VALUE
  };
  private static int wrong = 0;

  private final int run;
  private final Random random;
  private final LoadsUnseen x = new LoadsUnseen();
  private final Model model = new Model();
  private final int most;
  private int calls = 0;

  private WholeRunsTest(int run) {
    this.run = run;
    random = new Random(run);
    most = 1 + random.nextInt(random.nextInt(8) == 0 ? 200 : 5);
  }

  private void due(String call, long got, long want) {
    calls++;
    if (got == want) return;
    wrong++;
    if (wrong < 50) System.out.println("run " + run + ", call " + calls + ": " + call + " answered " + got + ", due is " + want);
  }

  // ---- numbers, now and then a wild one

  private int below(int bound) {
    return random.nextInt(40) == 0 ? WILD[random.nextInt(WILD.length)] : random.nextInt(bound);
  }

  private int knot() {
    return below(model.count(0));
  }

  private int knotBut(int other) {
    if (random.nextInt(20) == 0 || other < 0 || other >= model.count(0)) return knot();
    return (other + 1 + random.nextInt(model.count(0) - 1)) % model.count(0);
  }

  private int line() {
    return below(Math.max(model.count(1), 1));
  }

  private int lineBut(int other) {
    if (random.nextInt(20) == 0 || other < 0 || other >= model.count(1) || model.count(1) < 2) return line();
    return (other + 1 + random.nextInt(model.count(1) - 1)) % model.count(1);
  }

  /** Few of the HOURS most times, so that READINGS meet. */
  private int hour() {
    return below(random.nextInt(6) == 0 ? 24 : 5);
  }

  private int number() {
    return random.nextInt(4) == 0 ? NONE : below(most + 1);
  }

  private int tries() {
    int kind = random.nextInt(20);
    return kind == 0 ? below(20002) : below(kind < 8 ? 30 : 300);
  }

  // ---- calls, each by its section

  private void callOfNet(int which) {
    int line = line();
    int v = random.nextInt(6) == 0 ? NONE : below(random.nextInt(2) == 0 ? 300 : 70000);
    int r = below(random.nextInt(2) == 0 ? 300 : 60001);
    int hour = hour();
    int later = random.nextInt(8) == 0 ? hour() : Math.min(23, Math.max(hour, 0) + 1 + random.nextInt(4));
    int a = knot();
    int b = knotBut(a);
    int what = below(6);
    switch (which) {
      case 0: if (random.nextInt(20) == 0) net(below(8)); break;
      case 1: addLine(below(4), a, b); break;
      case 2: due("told(" + line + ", " + what + ")", x.told(line, what), model.told(line, what)); break;
      case 3: due("mark(" + line + ", " + what + ")", x.mark(line, what), model.mark(line, what)); break;
      case 4: down(line, random.nextInt(6) == 0); break;
      case 5: due("rate(" + line + ", " + r + ")", x.rate(line, r), model.rate(line, r)); break;
      case 6: due("reading(" + line + ", " + hour + ", " + v + ")", x.reading(line, hour, v), model.reading(line, hour, v)); break;
      case 7: due("load(" + line + ", " + hour + ", " + later + ")", x.load(line, hour, later), model.load(line, hour, later)); break;
      case 8: due("mean(" + line + ")", x.mean(line), model.mean(line)); break;
      default: due("route(" + a + ", " + b + ", " + (what - 1) + ")", x.route(a, b, what - 1), model.route(a, b, what - 1)); break;
    }
  }

  private void net(int k) {
    due("net(" + k + ")", x.net(k), model.net(k));
  }

  private void addLine(int kind, int from, int to) {
    due("line(" + kind + ", " + from + ", " + to + ")", x.line(kind, from, to), model.line(kind, from, to));
  }

  private void down(int line, boolean is) {
    due("down(" + line + ", " + is + ")", x.down(line, is), model.down(line, is));
  }

  private void carried(int line, int v) {
    due("carried(" + line + ", " + v + ")", x.carried(line, v), model.carried(line, v));
  }

  private void callOfFits(int which) {
    int n = tries();
    int a = knot();
    int b = knotBut(a);
    int v = number();
    boolean most = random.nextBoolean();
    switch (which) {
      case 0: carried(line(), v); break;
      case 1: if (random.nextInt(3) == 0) v = NONE;
        due("meter(" + a + ", " + b + ", " + v + ")", x.meter(a, b, v), model.meter(a, b, v)); break;
      case 2: due("fits(" + n + ")", x.fits(n), model.fits(n)); break;
      case 3: due("fit(" + a + ", " + b + ")", x.fit(a, b), model.fit(a, b)); break;
      case 4: due("many(" + n + ")", x.many(n), model.many(n)); break;
      case 5: due("bound(" + a + ", " + b + ", " + most + ", " + n + ")", x.bound(a, b, most, n), model.bound(a, b, most, n)); break;
      case 6: due("sure(" + n + ")", x.sure(n), model.sure(n)); break;
      case 7: due("tries()", x.tries(), model.tries()); break;
      case 8: due("guess(" + a + ", " + b + ")", x.guess(a, b), model.guess(a, b)); break;
      default: if (random.nextInt(4) == 0) tellWhatFits(); break;
    }
  }

  private void callOfChanges(int which) {
    int n = tries();
    int a = knot();
    int b = knotBut(a);
    int line = line();
    int other = lineBut(line);
    int v = below(most + 1);
    switch (which) {
      case 0: due("base(" + a + ", " + b + ", " + v + ")", x.base(a, b, v), model.base(a, b, v)); break;
      case 1: due("changed(" + n + ")", x.changed(n), model.changed(n)); break;
      case 2: due("worst(" + line + ", " + other + ", " + n + ")", x.worst(line, other, n), model.worst(line, other, n)); break;
      default: due("meters(" + n + ")", x.meters(n), model.meters(n)); break;
    }
  }

  private void callOfSheets(int which) {
    int s = below(4);
    int to = below(4);
    int i = below(random.nextInt(2) == 0 ? 4 : 25);
    int j = below(random.nextInt(2) == 0 ? 4 : 25);
    int n = below(random.nextInt(2) == 0 ? 4 : 26) - (random.nextInt(10) == 0 ? 1 : 0);
    int v = below(600) - 300;
    int line = line();
    switch (which) {
      case 0: due("sheet(" + s + ", " + n + ")", x.sheet(s, n), model.sheet(s, n)); break;
      case 1: due("lay(" + s + ", " + i + ", " + v + ")", x.lay(s, i, v), model.lay(s, i, v)); break;
      case 2: due("play(" + s + ", " + line + ")", x.play(s, line), model.play(s, line)); break;
      case 3: if (random.nextInt(3) == 0) due("tear(" + s + ")", x.tear(s), model.tear(s)); break;
      default:
        due("copy(" + s + ", " + i + ", " + to + ", " + j + ", " + n + ")", x.copy(s, i, to, j, n), model.copy(s, i, to, j, n));
        break;
    }
  }

  private void callOfTold(int which) {
    int what = below(7) - 1;
    switch (which) {
      case 0: due("asked()", x.asked(), model.asked()); break;
      case 1: due("count(" + what + ")", x.count(what), model.count(what)); break;
      case 2: due("finding()", x.finding(), model.finding()); break;
      case 3: due("findings(" + what + ")", x.findings(what), model.findings(what)); break;
      default: due("digest()", x.digest(), model.digest()); break;
    }
  }

  /** Numbers for PAIRS first, and on LINES what they carry by them, so that there is a FIT. */
  private void tellWhatFits() {
    int[] sums = new int[12];
    int often = 1 + random.nextInt(4);
    for (int a = 0; a < model.count(0); a++) {
      for (int b = 0; b < model.count(0); b++) {
        if (a == b || random.nextInt(4) >= often) continue;
        int number = random.nextInt(Math.min(most, 6) + 1);
        for (int i = 0; i < model.route(a, b, -1); i++) sums[model.route(a, b, i)] += number;
      }
    }
    for (int line = 0; line < model.count(1); line++) {
      if (model.told(line, 0) != 3 && random.nextInt(4) != 0 && sums[line] <= 200) carried(line, sums[line]);
    }
  }

  private void call() {
    int which = random.nextInt(38);
    if (which < 10) callOfNet(which);
    else if (which < 20) callOfFits(which - 10);
    else if (which < 24) callOfChanges(which - 20);
    else if (which < 29) callOfSheets(which - 24);
    else if (which < 34) callOfTold(which - 29);
    else if (which < 36) callOfFits(2 + random.nextInt(5));
    else callOfChanges(1 + random.nextInt(3));
  }

  /** A net, now and then none but that of a new object, which is looked at first. */
  private void begin() {
    due("fit(0, 1)", x.fit(0, 1), model.fit(0, 1));
    due("digest()", x.digest(), model.digest());
    if (random.nextInt(8) != 0) net(2 + random.nextInt(5));
    for (int i = random.nextInt(13); i > 0; i--) {
      int from = random.nextInt(model.count(0));
      addLine(random.nextInt(4), from, (from + 1 + random.nextInt(model.count(0) - 1)) % model.count(0));
    }
    if (random.nextInt(4) != 0) tellWhatFits();
  }

  private void compareAll() {
    for (int a = 0; a < model.count(0); a++) {
      for (int b = 0; b < model.count(0); b++) if (a != b) due("fit(" + a + ", " + b + ")", x.fit(a, b), model.fit(a, b));
    }
    for (int f = 1; f <= 5; f++) due("findings(" + f + ")", x.findings(f), model.findings(f));
    due("finding()", x.finding(), model.finding());
    due("asked()", x.asked(), model.asked());
    due("tries()", x.tries(), model.tries());
    due("digest()", x.digest(), model.digest());
    if (calls <= 512) return;
    wrong++;
    System.out.println("run " + run + " has " + calls + " calls");
  }

  private void go() {
    begin();
    while (calls < CALLS) call();
    compareAll();
  }

  public static void main(String[] args) {
    for (int run = 0; run < RUNS; run++) new WholeRunsTest(run).go();
    System.out.println(wrong == 0 ? "all answers are as due" : wrong + " answers are not as due");
    if (wrong != 0) System.exit(1);
  }
}
