import java.util.ArrayList;
import java.util.Arrays;
import java.util.List;
import java.util.Random;

/**
 * ROUTES, FITS and TRIES of made-up nets against a model that is written from the document's words and is as slow as
 * they are: a ROUTE is picked out of all rows of LINES, and each TRY is judged by sums made from nothing.
 */
public final class SeekingModelTest {
  private static final int NETS = 4000, BAD = -1, STATE = -4, SPENT = -6, NONE = -9;
  private static final int MOST_TRIES = 20000;
  private static int wrong = 0;
  private static int net = 0;

  private final Random random;
  private final LoadsUnseen x = new LoadsUnseen();
  private int knots;
  private int lines;
  private int[] from;
  private int[] to;
  private boolean[] isDown;
  private int[] carried;
  private int[] meters;
  private int[] bases;
  private List<List<Integer>> routes;
  private List<Integer> sought;
  private int greatest;

  private SeekingModelTest(long seed) {
    random = new Random(seed);
  }

  private static void due(String call, long got, long want) {
    if (got == want) return;
    wrong++;
    if (wrong < 50) System.out.println("net " + net + ": " + call + " answered " + got + ", due is " + want);
  }

  // ---- the net, made alike in the object and in the model

  private void make() {
    knots = 2 + random.nextInt(5);
    lines = random.nextInt(13);
    from = new int[lines];
    to = new int[lines];
    isDown = new boolean[lines];
    carried = new int[lines];
    meters = new int[knots * knots];
    bases = new int[knots * knots];
    Arrays.fill(carried, NONE);
    Arrays.fill(meters, NONE);
    x.net(knots);
    int most = 1 + random.nextInt(6);
    int often = 1 + random.nextInt(4);
    for (int line = 0; line < lines; line++) makeLine(line, most, often);
    routes = routesWithout(NONE);
    if (random.nextInt(3) != 0) tellWhatFits(most, often);
    for (int i = random.nextInt(4); i > 0; i--) makePair(meters, true, most);
    for (int i = random.nextInt(4); i > 0; i--) makePair(bases, false, most);
    sought = soughtPairs();
    greatest = Math.max(greatestOf(carried), greatestOf(meters));
  }

  private static int greatestOf(int[] row) {
    int greatest = 0;
    for (int v : row) greatest = Math.max(greatest, v);
    return greatest;
  }

  private void makeLine(int line, int most, int often) {
    int kind = random.nextInt(4);
    from[line] = random.nextInt(knots);
    to[line] = (from[line] + 1 + random.nextInt(knots - 1)) % knots;
    due("line", x.line(kind, from[line], to[line]), line);
    isDown[line] = random.nextInt(8) == 0;
    x.down(line, isDown[line]);
    if (kind == 3 || random.nextInt(4) >= often) return;
    carried[line] = isDown[line] && random.nextInt(4) != 0 ? 0 : random.nextInt(most + 1);
    x.carried(line, carried[line]);
  }

  /** Numbers for PAIRS first, and what LINES carry by them, so that there is a FIT. */
  private void tellWhatFits(int most, int often) {
    int[] sums = new int[lines];
    for (int pair = 0; pair < knots * knots; pair++) {
      if (routes.get(pair) == null || random.nextInt(4) >= often) continue;
      int number = random.nextInt(most);
      for (int line : routes.get(pair)) sums[line] += number;
    }
    for (int line = 0; line < lines; line++) {
      if (carried[line] == NONE || sums[line] > 200) continue;
      carried[line] = sums[line];
      x.carried(line, sums[line]);
    }
  }

  private void makePair(int[] row, boolean isMeter, int most) {
    int a = random.nextInt(knots);
    int b = (a + 1 + random.nextInt(knots - 1)) % knots;
    int number = random.nextInt(most + 1);
    int was = isMeter ? x.meter(a, b, number) : x.base(a, b, number);
    due("meter, base", was, row[a * knots + b]);
    row[a * knots + b] = number;
  }

  // ---- routes: all rows of LINES without a KNOT twice, the best one kept

  private List<List<Integer>> routesWithout(int without) {
    List<List<Integer>> all = new ArrayList<>();
    for (int a = 0; a < knots; a++) {
      for (int b = 0; b < knots; b++) {
        List<List<Integer>> rows = new ArrayList<>();
        boolean[] seen = new boolean[knots];
        seen[a] = true;
        if (a != b) addRows(a, b, without, seen, new ArrayList<>(), rows);
        all.add(best(rows));
      }
    }
    return all;
  }

  private void addRows(int knot, int b, int without, boolean[] seen, List<Integer> row, List<List<Integer>> rows) {
    if (knot == b) {
      rows.add(new ArrayList<>(row));
      return;
    }
    for (int line = lines - 1; line >= 0; line--) {
      if (from[line] != knot || isDown[line] || line == without || seen[to[line]]) continue;
      seen[to[line]] = true;
      row.add(line);
      addRows(to[line], b, without, seen, row, rows);
      row.remove(row.size() - 1);
      seen[to[line]] = false;
    }
  }

  private static List<Integer> best(List<List<Integer>> rows) {
    List<Integer> best = null;
    for (List<Integer> row : rows) if (best == null || isAhead(row, best)) best = row;
    return best;
  }

  private static boolean isAhead(List<Integer> row, List<Integer> other) {
    if (row.size() != other.size()) return row.size() < other.size();
    for (int i = 0; i < row.size(); i++) {
      if (!row.get(i).equals(other.get(i))) return row.get(i) < other.get(i);
    }
    return false;
  }

  // ---- seeking: a row of numbers that can stand at the head of a FIT is a TRY

  private List<Integer> soughtPairs() {
    List<Integer> pairs = new ArrayList<>();
    for (int pair = 0; pair < knots * knots; pair++) {
      if (routes.get(pair) == null) continue;
      boolean isTold = meters[pair] != NONE;
      for (int line : routes.get(pair)) isTold |= carried[line] != NONE;
      if (isTold) pairs.add(pair);
    }
    return pairs;
  }

  /** What a SEEKING met: its FITS, and TRIES up to each of them and in all. */
  private final class Sought {
    final List<int[]> fits = new ArrayList<>();
    final int[] fixed;
    final int enough;
    int tries = 0;
    boolean isOver = false;

    Sought(int[] fixed, int enough) {
      this.fixed = fixed;
      this.enough = enough;
      goOn(new ArrayList<>());
    }

    private void goOn(List<Integer> head) {
      if (head.size() == sought.size()) {
        if (!isFit(head)) return;
        fits.add(byPairs(head));
        isOver |= fits.size() >= enough;
        return;
      }
      for (int number = 0; number <= greatest && !isOver; number++) {
        head.add(number);
        if (canBe(head, fixed)) {
          tries++;
          isOver |= tries > MOST_TRIES;
          if (!isOver) goOn(head);
        }
        head.remove(head.size() - 1);
      }
    }
  }

  private boolean canBe(List<Integer> head, int[] fixed) {
    int last = sought.get(head.size() - 1);
    if (fixed[last] != NONE && fixed[last] != head.get(head.size() - 1)) return false;
    for (int line : routes.get(last)) {
      if (carried[line] == NONE) continue;
      int sum = 0;
      boolean isBehind = false;
      for (int place = 0; place < sought.size(); place++) {
        if (!routes.get(sought.get(place)).contains(line)) continue;
        if (place < head.size()) sum += head.get(place);
        else isBehind = true;
      }
      if (sum > carried[line] || (!isBehind && sum != carried[line])) return false;
    }
    return true;
  }

  private boolean isFit(List<Integer> numbers) {
    for (int line = 0; line < lines; line++) {
      int sum = 0;
      for (int place = 0; place < sought.size(); place++) {
        if (routes.get(sought.get(place)).contains(line)) sum += numbers.get(place);
      }
      if (carried[line] != NONE && sum != carried[line]) return false;
    }
    return true;
  }

  private int[] byPairs(List<Integer> numbers) {
    int[] fit = new int[knots * knots];
    for (int place = 0; place < sought.size(); place++) fit[sought.get(place)] = numbers.get(place);
    return fit;
  }

  // ---- what is compared

  private void compareRoutes() {
    int cut = 0;
    for (int a = 0; a < knots; a++) {
      for (int b = 0; b < knots; b++) {
        if (a == b) continue;
        List<Integer> row = routes.get(a * knots + b);
        if (row == null) cut++;
        due("route, how many", x.route(a, b, -1), row == null ? NONE : row.size());
        for (int i = 0; row != null && i < row.size(); i++) due("route", x.route(a, b, i), row.get(i));
      }
    }
    due("count(4)", x.count(4), cut);
  }

  private void compareFit(String call, int[] fit) {
    for (int a = 0; a < knots; a++) {
      for (int b = 0; b < knots; b++) {
        if (a != b) due("fit behind " + call, x.fit(a, b), fit == null ? NONE : fit[a * knots + b]);
      }
    }
  }

  private static int asTold(int tries, int answer) {
    return tries > MOST_TRIES ? SPENT : answer;
  }

  private void compareFirst() {
    Sought first = new Sought(meters, 1);
    boolean isSpent = first.tries > MOST_TRIES;
    due("fits", x.fits(MOST_TRIES), asTold(first.tries, first.fits.size()));
    due("tries of fits", x.tries(), Math.min(first.tries, MOST_TRIES));
    compareFit("fits", isSpent || first.fits.isEmpty() ? null : first.fits.get(0));
    if (isSpent || first.tries < 2) return;
    due("fits with one TRY too few", x.fits(first.tries - 1), SPENT);
    due("tries of it", x.tries(), first.tries - 1);
    due("fits with just enough", x.fits(first.tries), first.fits.size());
  }

  private void compareAll() {
    Sought all = new Sought(meters, Integer.MAX_VALUE);
    int n = all.tries > MOST_TRIES ? MOST_TRIES : Math.max(all.tries, 1);
    due("many", x.many(n), asTold(all.tries, 1));
    due("tries of many", x.tries(), Math.min(all.tries, MOST_TRIES));
    if (all.tries > MOST_TRIES) {
      compareSpent(n);
      return;
    }
    due("asked of many", x.asked(), all.fits.size());
    compareBounds(all, n);
    compareChanged(all, n);
    compareWorst(all, n);
    if (n < 2) return;
    compareSpent(n - 1);
    due("tries of SPENT", x.tries(), n - 1);
  }

  private void compareSpent(int n) {
    due("many", x.many(n), SPENT);
    due("bound", x.bound(0, 1, false, n), SPENT);
    due("bound", x.bound(1, 0, true, n), SPENT);
    due("sure", x.sure(n), SPENT);
    due("changed", x.changed(n), SPENT);
    compareFit("SPENT", null);
  }

  private void compareBounds(Sought all, int n) {
    int sure = 0;
    for (int a = 0; a < knots; a++) {
      for (int b = 0; b < knots; b++) {
        if (a == b) continue;
        int least = Integer.MAX_VALUE;
        int most = NONE;
        for (int[] fit : all.fits) {
          least = Math.min(least, fit[a * knots + b]);
          most = Math.max(most, fit[a * knots + b]);
        }
        if (least == most && routes.get(a * knots + b) != null) sure++;
        due("least", x.bound(a, b, false, n), all.fits.isEmpty() ? NONE : least);
        due("most", x.bound(a, b, true, n), most);
        due("tries of bound", x.tries(), all.tries);
      }
    }
    due("sure", x.sure(n), all.fits.isEmpty() ? NONE : sure);
    due("tries of sure", x.tries(), all.tries);
  }

  private void compareChanged(Sought all, int n) {
    int fewest = Integer.MAX_VALUE;
    int[] best = null;
    for (int[] fit : all.fits) {
      int changed = 0;
      for (int pair = 0; pair < fit.length; pair++) if (fit[pair] != bases[pair]) changed++;
      if (changed >= fewest) continue;
      fewest = changed;
      best = fit;
    }
    due("changed", x.changed(n), best == null ? NONE : fewest);
    due("tries of changed", x.tries(), all.tries);
    compareFit("changed", best);
  }

  private void compareWorst(Sought all, int n) {
    for (int line = 0; line < lines; line++) {
      int other = random.nextInt(lines);
      if (other == line) {
        due("worst of itself", x.worst(line, other, n), BAD);
      } else if (isDown[line] || isDown[other]) {
        due("worst of one that is DOWN", x.worst(line, other, n), STATE);
      } else {
        compareWorstOf(all, n, line, other);
      }
    }
  }

  private void compareWorstOf(Sought all, int n, int line, int other) {
    List<List<Integer>> then = routesWithout(other);
    int most = NONE;
    int[] best = null;
    for (int[] fit : all.fits) {
      int sum = 0;
      for (int pair = 0; pair < fit.length; pair++) {
        if (then.get(pair) != null && then.get(pair).contains(line)) sum += fit[pair];
      }
      if (best != null && sum <= most) continue;
      most = sum;
      best = fit;
    }
    due("worst", x.worst(line, other, n), most);
    due("tries of worst", x.tries(), all.tries);
    compareFit("worst", best);
  }

  private void compareMeters() {
    Sought first = new Sought(meters, 1);
    if (first.tries <= MOST_TRIES && first.fits.isEmpty()) {
      long asked = x.asked();
      due("meters", x.meters(MOST_TRIES), NONE);
      due("asked of NONE", x.asked(), asked);
      return;
    }
    long bits = 0;
    int spent = first.tries;
    if (spent <= MOST_TRIES) {
      for (long set : setsInOrder()) {
        int[] fixed = meters.clone();
        for (int pair : sought) if ((set >> pair & 1) == 1) fixed[pair] = first.fits.get(0)[pair];
        Sought some = new Sought(fixed, 2);
        spent += some.tries;
        bits = set;
        if (spent > MOST_TRIES || some.fits.size() == 1) break;
      }
    }
    due("meters", x.meters(MOST_TRIES), asTold(spent, Long.bitCount(bits)));
    due("tries of meters", x.tries(), Math.min(spent, MOST_TRIES));
    if (spent > MOST_TRIES) return;
    due("asked of meters", x.asked(), bits);
    if (spent < 2) return;
    due("meters with one TRY too few", x.meters(spent - 1), SPENT);
    due("meters with just enough", x.meters(spent), Long.bitCount(bits));
  }

  /** By how many they are, then as numbers; so many PAIRS are free here that all sets can be written down. */
  private List<Long> setsInOrder() {
    List<Long> sets = new ArrayList<>();
    sets.add(0L);
    for (int pair : sought) {
      if (meters[pair] != NONE) continue;
      for (int i = sets.size() - 1; i >= 0; i--) sets.add(sets.get(i) | 1L << pair);
    }
    sets.sort((p, q) -> {
      int byCount = Integer.compare(Long.bitCount(p), Long.bitCount(q));
      return byCount != 0 ? byCount : Long.compare(p, q);
    });
    return sets;
  }

  private int freePairs() {
    int free = 0;
    for (int pair : sought) if (meters[pair] == NONE) free++;
    return free;
  }

  private void compare() {
    make();
    compareRoutes();
    if (sought.size() > 16) return;
    compareFirst();
    compareAll();
    if (freePairs() <= 10) compareMeters();
  }

  public static void main(String[] args) {
    for (net = 0; net < NETS; net++) new SeekingModelTest(net).compare();
    System.out.println(wrong == 0 ? "all answers are as due" : wrong + " answers are not as due");
    if (wrong != 0) System.exit(1);
  }
}
