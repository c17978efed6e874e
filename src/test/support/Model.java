import java.util.ArrayList;
import java.util.Arrays;
import java.util.Comparator;
import java.util.HashMap;
import java.util.List;
import java.util.Map;
import java.util.TreeMap;

/**
 * The whole face once more, section by section as the document words it, with maps and lists and as slow as they are;
 * nothing here is taken over from the class. What the document leaves open is read as README.md says.
 */
final class Model {
  private static final int BAD = -1, FULL = -2, FINDING = -3, STATE = -4, SPENT = -6, NONE = -9;
  private static final int NOTHING = 1, BEYOND = 2, UNLIKE = 3, NOUGHT = 4, SIZE = 5;

  private static final class Line {
    int kind;
    int from;
    int to;
    boolean isDown = false;
    Integer carried = null;
    int rate = 100;
    final TreeMap<Integer, Integer> readings = new TreeMap<>();

    boolean hasCounter() {
      return kind == 1 || kind == 2;
    }

    int size() {
      return kind == 2 ? 65536 : 256;
    }

    int load(int i, int j) {
      return Math.floorMod(readings.get(j) - readings.get(i), size());
    }
  }

  /** More TRIES than told. */
  private static final class Spent extends Exception {
    private static final long serialVersionUID = 1L;
  }

  /** TRIES of one call, over all its SEEKINGS. */
  private static final class Budget {
    final int n;
    int tries = 0;

    Budget(int n) {
      this.n = n;
    }

    void take() throws Spent {
      if (tries == n) throw new Spent();
      tries++;
    }
  }

  private int k = 2;
  private final List<Line> lines = new ArrayList<>();
  private final Map<Integer, Integer> meters = new HashMap<>();
  private final Map<Integer, Integer> bases = new HashMap<>();
  private final List<List<Byte>> sheets = new ArrayList<>(Arrays.asList(null, null, null, null));
  private Map<Integer, Integer> told = null;
  private int tries = 0;
  private long asked = 0;
  private final List<Integer> found = new ArrayList<>();

  // ---- 1 the net, readings

  int net(int knots) {
    if (knots < 2 || knots > 6) return BAD;
    k = knots;
    lines.clear();
    meters.clear();
    bases.clear();
    told = null;
    return k;
  }

  int line(int kind, int from, int to) {
    if (kind < 0 || kind > 3 || !isPair(from, to)) return BAD;
    if (lines.size() == 12) return FULL;
    Line line = new Line();
    line.kind = kind;
    line.from = from;
    line.to = to;
    lines.add(line);
    return lines.size() - 1;
  }

  int told(int line, int what) {
    if (!isLine(line) || what < 0 || what > 5) return BAD;
    Line of = lines.get(line);
    return List.of(of.kind, of.from, of.to, of.isDown ? 1 : 0, orNone(of.carried), of.rate).get(what);
  }

  int mark(int line, int kind) {
    if (!isLine(line) || kind < 1 || kind > 3) return BAD;
    Line of = lines.get(line);
    if (kind == 1 && of.hasCounter()) return of.size();
    if (kind == 2 && of.kind == 2) return of.readings.size();
    if (kind == 3 && of.kind == 3) return (int) routes(NONE).values().stream().filter(row -> row.contains(line)).count();
    return finding(UNLIKE);
  }

  int down(int line, boolean is) {
    if (!isLine(line)) return BAD;
    int was = lines.get(line).isDown ? 1 : 0;
    lines.get(line).isDown = is;
    return was;
  }

  int rate(int line, int r) {
    if (!isLine(line) || r < 0 || r > 60000) return BAD;
    int was = lines.get(line).rate;
    lines.get(line).rate = r;
    return was;
  }

  int reading(int line, int hour, int v) {
    if (!isLine(line) || (v < 0 && v != NONE)) return BAD;
    Line of = lines.get(line);
    if (!of.hasCounter()) return finding(UNLIKE);
    if (hour < 0 || hour > 23) return finding(BEYOND);
    return orNone(v == NONE ? of.readings.remove(hour) : of.readings.put(hour, v % of.size()));
  }

  int load(int line, int i, int j) {
    if (!isLine(line)) return BAD;
    Line of = lines.get(line);
    if (!of.hasCounter()) return finding(UNLIKE);
    if (i < 0 || i > 23 || j < 0 || j > 23 || i >= j) return finding(BEYOND);
    if (!of.readings.containsKey(i) || !of.readings.containsKey(j)) return finding(NOTHING);
    asked = of.load(i, j);
    return of.rate * (j - i) < of.size() ? 1 : 0;
  }

  int mean(int line) {
    if (!isLine(line)) return BAD;
    Line of = lines.get(line);
    if (!of.hasCounter()) return finding(UNLIKE);
    if (of.readings.size() < 2) return finding(NOUGHT);
    List<Integer> hours = new ArrayList<>(of.readings.keySet());
    int sum = 0;
    for (int i = 1; i < hours.size(); i++) sum += of.load(hours.get(i - 1), hours.get(i));
    return sum / (hours.get(hours.size() - 1) - hours.get(0));
  }

  int route(int a, int b, int i) {
    if (!isPair(a, b)) return BAD;
    List<Integer> row = routes(NONE).get(a * k + b);
    if (row == null) return NONE;
    if (i == -1) return row.size();
    return i >= 0 && i < row.size() ? row.get(i) : NONE;
  }

  // ---- 2 fits

  int carried(int line, int v) {
    if (!isLine(line) || !isNumberOrNone(v)) return BAD;
    if (lines.get(line).kind == 3) return finding(UNLIKE);
    int was = orNone(lines.get(line).carried);
    lines.get(line).carried = v == NONE ? null : v;
    return was;
  }

  int meter(int a, int b, int v) {
    if (!isPair(a, b) || !isNumberOrNone(v)) return BAD;
    return orNone(v == NONE ? meters.remove(a * k + b) : meters.put(a * k + b, v));
  }

  int fits(int n) {
    if (!isTries(n)) return BAD;
    told = null;
    List<Map<Integer, Integer>> fits = fitsBy(n, 1);
    if (fits == null) return SPENT;
    if (!fits.isEmpty()) told = fits.get(0);
    return fits.size();
  }

  int fit(int a, int b) {
    if (!isPair(a, b)) return BAD;
    return told == null ? NONE : told.getOrDefault(a * k + b, 0);
  }

  int many(int n) {
    if (!isTries(n)) return BAD;
    List<Map<Integer, Integer>> fits = fitsBy(n, Integer.MAX_VALUE);
    if (fits == null) return SPENT;
    asked = fits.size();
    return 1;
  }

  int bound(int a, int b, boolean most, int n) {
    if (!isPair(a, b) || !isTries(n)) return BAD;
    List<Map<Integer, Integer>> fits = fitsBy(n, Integer.MAX_VALUE);
    if (fits == null) return SPENT;
    if (fits.isEmpty()) return NONE;
    return edge(fits, a * k + b, most);
  }

  int sure(int n) {
    if (!isTries(n)) return BAD;
    List<Map<Integer, Integer>> fits = fitsBy(n, Integer.MAX_VALUE);
    if (fits == null) return SPENT;
    if (fits.isEmpty()) return NONE;
    int sure = 0;
    for (int pair : routes(NONE).keySet()) if (edge(fits, pair, false) == edge(fits, pair, true)) sure++;
    return sure;
  }

  int tries() {
    return tries;
  }

  int guess(int a, int b) {
    if (!isPair(a, b)) return BAD;
    int out = 0;
    int in = 0;
    int all = 0;
    for (Line line : lines) {
      if (line.carried == null) continue;
      if (line.from == a) out += line.carried;
      if (line.to == b) in += line.carried;
      all += line.carried;
    }
    return all == 0 ? finding(NOUGHT) : out * in / all;
  }

  // ---- 3 changes, failures, meters

  int base(int a, int b, int v) {
    if (!isPair(a, b) || v < 0 || v > 200) return BAD;
    Integer was = bases.put(a * k + b, v);
    return was == null ? 0 : was;
  }

  int changed(int n) {
    if (!isTries(n)) return BAD;
    told = null;
    List<Map<Integer, Integer>> fits = fitsBy(n, Integer.MAX_VALUE);
    if (fits == null) return SPENT;
    int fewest = NONE;
    for (Map<Integer, Integer> fit : fits) {
      int changed = 0;
      for (int pair = 0; pair < k * k; pair++) {
        if (isPair(pair / k, pair % k) && !fit.getOrDefault(pair, 0).equals(bases.getOrDefault(pair, 0))) changed++;
      }
      if (told != null && changed >= fewest) continue;
      fewest = changed;
      told = fit;
    }
    return fewest;
  }

  int worst(int line, int other, int n) {
    if (!isLine(line) || !isLine(other) || line == other || !isTries(n)) return BAD;
    if (lines.get(line).isDown || lines.get(other).isDown) return STATE;
    told = null;
    List<Map<Integer, Integer>> fits = fitsBy(n, Integer.MAX_VALUE);
    if (fits == null) return SPENT;
    Map<Integer, List<Integer>> then = routes(other);
    int most = NONE;
    for (Map<Integer, Integer> fit : fits) {
      int sum = 0;
      for (int pair : then.keySet()) if (then.get(pair).contains(line)) sum += fit.getOrDefault(pair, 0);
      if (told != null && sum <= most) continue;
      most = sum;
      told = fit;
    }
    return most;
  }

  int meters(int n) {
    if (!isTries(n)) return BAD;
    Budget budget = new Budget(n);
    try {
      return metersBy(budget);
    } catch (Spent spent) {
      return SPENT;
    } finally {
      tries = budget.tries;
    }
  }

  private int metersBy(Budget budget) throws Spent {
    List<Map<Integer, Integer>> first = fits(meters, 1, budget);
    if (first.isEmpty()) return NONE;
    List<Integer> free = new ArrayList<>();
    for (int pair : soughtPairs(meters)) if (!meters.containsKey(pair)) free.add(pair);
    for (int size = 0; size <= free.size(); size++) {
      long bits = firstSet(free, free.size(), size, 0, first.get(0), budget);
      if (bits < 0) continue;
      asked = bits;
      return size;
    }
    throw new IllegalStateException("all PAIRS METERED, and still not one FIT alone");
  }

  /** The first of the sets of so many more of the PAIRS ahead of a place that does; as numbers: the greatest PAIR moves last. */
  private long firstSet(List<Integer> free, int ahead, int more, long bits, Map<Integer, Integer> first, Budget budget)
      throws Spent {
    if (more == 0) return isAlone(bits, first, budget) ? bits : -1;
    for (int greatest = more - 1; greatest < ahead; greatest++) {
      long set = firstSet(free, greatest, more - 1, bits | 1L << free.get(greatest), first, budget);
      if (set >= 0) return set;
    }
    return -1;
  }

  private boolean isAlone(long bits, Map<Integer, Integer> first, Budget budget) throws Spent {
    Map<Integer, Integer> metered = new HashMap<>(meters);
    for (int pair : first.keySet()) if ((bits >> pair & 1) == 1) metered.put(pair, first.get(pair));
    return fits(metered, 2, budget).size() == 1;
  }

  // ---- 4 sheets

  int sheet(int s, int n) {
    if (!isSheet(s) || n > 24) return BAD;
    if (n < 0) return finding(SIZE);
    List<Byte> bytes = new ArrayList<>();
    for (int i = 0; i < n; i++) bytes.add((byte) 0);
    sheets.set(s, bytes);
    return n;
  }

  int lay(int s, int i, int v) {
    if (!isSheet(s)) return BAD;
    if (sheets.get(s) == null) return finding(NOTHING);
    if (i < 0 || i >= sheets.get(s).size()) return finding(BEYOND);
    return 1000 + sheets.get(s).set(i, (byte) v);
  }

  int play(int s, int line) {
    if (!isSheet(s) || !isLine(line)) return BAD;
    if (!lines.get(line).hasCounter()) return finding(UNLIKE);
    if (sheets.get(s) == null) return finding(NOTHING);
    int hour = 0;
    for (int v : sheets.get(s)) lines.get(line).readings.put(hour++, v < 0 ? v + 256 : v);
    return hour;
  }

  int tear(int s) {
    if (!isSheet(s)) return BAD;
    if (sheets.get(s) == null) return finding(NOTHING);
    sheets.set(s, null);
    return 1;
  }

  int copy(int s, int i, int to, int j, int n) {
    if (!isSheet(s) || !isSheet(to)) return BAD;
    if (n < 0) return finding(SIZE);
    if (sheets.get(s) == null || sheets.get(to) == null) return finding(NOTHING);
    if (i < 0 || (long) i + n > sheets.get(s).size()) return finding(BEYOND);
    if (j < 0 || (long) j + n > sheets.get(to).size()) return finding(BEYOND);
    List<Byte> taken = new ArrayList<>(sheets.get(s).subList(i, i + n));
    for (int at = 0; at < n; at++) sheets.get(to).set(j + at, taken.get(at));
    return 1;
  }

  // ---- 5 what is told

  long asked() {
    return asked;
  }

  int count(int what) {
    switch (what) {
      case 0: return k;
      case 1: return lines.size();
      case 2: return (int) lines.stream().filter(line -> line.carried != null).count();
      case 3: return meters.size();
      case 4: return k * (k - 1) - routes(NONE).size();
      default: return BAD;
    }
  }

  int finding() {
    return found.isEmpty() ? 0 : found.get(found.size() - 1);
  }

  int findings(int f) {
    return f < 1 || f > 5 ? BAD : (int) found.stream().filter(which -> which == f).count();
  }

  long digest() {
    List<Integer> row = new ArrayList<>();
    for (int what = 0; what < 5; what++) row.add(count(what));
    for (int line = 0; line < lines.size(); line++) {
      for (int what = 0; what < 6; what++) row.add(told(line, what));
      if (!lines.get(line).hasCounter()) continue;
      for (int hour = 0; hour < 24; hour++) row.add(lines.get(line).readings.getOrDefault(hour, NONE));
    }
    for (int pair = 0; pair < k * k; pair++) {
      if (!isPair(pair / k, pair % k)) continue;
      row.add(meters.getOrDefault(pair, NONE));
      row.add(bases.getOrDefault(pair, 0));
    }
    for (List<Byte> sheet : sheets) {
      row.add(sheet == null ? -1 : sheet.size());
      if (sheet != null) for (byte v : sheet) row.add((int) v);
    }
    long h = 17;
    for (int v : row) h = 31 * h + v;
    return h;
  }

  // ---- what the sections share

  private int finding(int which) {
    found.add(which);
    return FINDING;
  }

  private static int orNone(Integer v) {
    return v == null ? NONE : v;
  }

  private static boolean isTries(int n) {
    return n >= 1 && n <= 20000;
  }

  private static boolean isNumberOrNone(int v) {
    return v == NONE || (v >= 0 && v <= 200);
  }

  private static boolean isSheet(int s) {
    return s >= 0 && s <= 3;
  }

  private boolean isLine(int line) {
    return line >= 0 && line < lines.size();
  }

  private boolean isPair(int a, int b) {
    return a >= 0 && a < k && b >= 0 && b < k && a != b;
  }

  /** THE ROUTE of each PAIR that is not CUT, by its number, with a LINE DOWN besides. */
  private Map<Integer, List<Integer>> routes(int without) {
    Comparator<List<Integer>> byPlaces = Comparator.comparingInt(List::size);
    Map<Integer, List<Integer>> best = new TreeMap<>();
    for (int a = 0; a < k; a++) {
      List<List<Integer>> rows = new ArrayList<>();
      addRows(a, a, without, new ArrayList<>(), rows);
      for (List<Integer> row : rows) {
        int pair = a * k + lines.get(row.get(row.size() - 1)).to;
        best.merge(pair, row, (p, q) -> byPlaces.thenComparing(Model::byNumbers).compare(p, q) <= 0 ? p : q);
      }
    }
    return best;
  }

  private static int byNumbers(List<Integer> p, List<Integer> q) {
    for (int i = 0; i < p.size(); i++) if (!p.get(i).equals(q.get(i))) return p.get(i) - q.get(i);
    return 0;
  }

  /** All rows of LINES from a KNOT, none DOWN, no KNOT twice, that go on behind a row that leads to another KNOT. */
  private void addRows(int first, int knot, int without, List<Integer> row, List<List<Integer>> rows) {
    for (int line = 0; line < lines.size(); line++) {
      Line next = lines.get(line);
      if (next.from != knot || next.isDown || line == without || next.to == first) continue;
      if (row.stream().anyMatch(before -> lines.get(before).to == next.to)) continue;
      List<Integer> longer = new ArrayList<>(row);
      longer.add(line);
      rows.add(longer);
      addRows(first, next.to, without, longer, rows);
    }
  }

  private List<Integer> soughtPairs(Map<Integer, Integer> metered) {
    List<Integer> pairs = new ArrayList<>();
    routes(NONE).forEach((pair, row) -> {
      if (metered.containsKey(pair) || row.stream().anyMatch(line -> lines.get(line).carried != null)) pairs.add(pair);
    });
    return pairs;
  }

  /** FITS, up to so many, as one SEEKING of a call; null if it was SPENT. */
  private List<Map<Integer, Integer>> fitsBy(int n, int enough) {
    Budget budget = new Budget(n);
    try {
      return fits(meters, enough, budget);
    } catch (Spent spent) {
      return null;
    } finally {
      tries = budget.tries;
    }
  }

  private List<Map<Integer, Integer>> fits(Map<Integer, Integer> metered, int enough, Budget budget) throws Spent {
    List<Map<Integer, Integer>> fits = new ArrayList<>();
    Map<Integer, List<Integer>> routes = routes(NONE);
    Map<Integer, Integer> left = new HashMap<>();
    for (int line = 0; line < lines.size(); line++) if (lines.get(line).carried != null) left.put(line, lines.get(line).carried);
    seek(soughtPairs(metered), 0, new HashMap<>(), left, new Ways(routes, metered, fits, enough, budget));
    return fits;
  }

  /** What stays the same all through a SEEKING. */
  private record Ways(Map<Integer, List<Integer>> routes, Map<Integer, Integer> metered,
      List<Map<Integer, Integer>> fits, int enough, Budget budget) {}

  private void seek(List<Integer> pairs, int place, Map<Integer, Integer> numbers, Map<Integer, Integer> left, Ways ways)
      throws Spent {
    if (place == pairs.size()) {
      if (left.values().stream().allMatch(v -> v == 0)) ways.fits.add(numbers);
      return;
    }
    int pair = pairs.get(place);
    for (int number = 0; number <= 200 && ways.fits.size() < ways.enough; number++) {
      if (!canBe(pairs, place, number, left, ways)) continue;
      ways.budget.take();
      Map<Integer, Integer> longer = new HashMap<>(numbers);
      longer.put(pair, number);
      Map<Integer, Integer> less = new HashMap<>(left);
      for (int line : ways.routes.get(pair)) if (less.containsKey(line)) less.put(line, less.get(line) - number);
      seek(pairs, place + 1, longer, less, ways);
    }
  }

  private static boolean canBe(List<Integer> pairs, int place, int number, Map<Integer, Integer> left, Ways ways) {
    int pair = pairs.get(place);
    if (ways.metered.containsKey(pair) && ways.metered.get(pair) != number) return false;
    for (int line : ways.routes.get(pair)) {
      if (!left.containsKey(line)) continue;
      if (number > left.get(line)) return false;
      boolean isLast = true;
      for (int behind : pairs.subList(place + 1, pairs.size())) isLast &= !ways.routes.get(behind).contains(line);
      if (isLast && number != left.get(line)) return false;
    }
    return true;
  }

  private static int edge(List<Map<Integer, Integer>> fits, int pair, boolean most) {
    int edge = fits.get(0).getOrDefault(pair, 0);
    for (Map<Integer, Integer> fit : fits) {
      int number = fit.getOrDefault(pair, 0);
      edge = most ? Math.max(edge, number) : Math.min(edge, number);
    }
    return edge;
  }
}
