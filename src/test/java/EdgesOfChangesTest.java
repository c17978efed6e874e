/** Promises 21 to 24, and what 'Terms' says of changes, failures and meters: each sentence that names a boundary. */
public final class EdgesOfChangesTest extends Edge {

  private static LoadsUnseen based(LoadsUnseen x, int first, int second, int third) {
    x.base(0, 1, first);
    x.base(0, 2, second);
    x.base(1, 2, third);
    return x;
  }

  // ---- 21 base

  private static void base() {
    sentence(21, "a number 0 .. 200 for each PAIR; 0 at first: what it was");
    LoadsUnseen x = made(6, 0, 1);
    for (int[] pair : new int[][] {{0, 1}, {5, 4}, {0, 5}, {5, 0}, {1, 0}}) {
      due("at first", x.base(pair[0], pair[1], 200), 0);
      due("the most", x.base(pair[0], pair[1], 0), 200);
      due("the least", x.base(pair[0], pair[1], 1 + pair[0]), 0);
    }
    due("each its own", x.base(0, 1, 0), 1);
    due("each its own", x.base(5, 4, 0), 6);
    due("each its own", x.base(1, 0, 0), 2);
    sentence(21, "BAD");
    for (int v : NO_LOAD) bad(Edge::rich, "base(0, 1, " + v + ")", y -> y.base(0, 1, v));
    bad(Edge::rich, "NONE is no number of a BASE", y -> y.base(0, 1, NONE));
    for (int knot : NO_KNOT) {
      bad(Edge::rich, "base(" + knot + ", 1, 5)", y -> y.base(knot, 1, 5));
      bad(Edge::rich, "base(1, " + knot + ", 0)", y -> y.base(1, knot, 0));
    }
    for (int knot = 0; knot < 4; knot++) {
      int same = knot;
      bad(Edge::rich, "the same KNOT", y -> y.base(same, same, 5));
    }
  }

  // ---- 22 changed

  private static void changed() {
    sentence(22, "the fewest PAIRS that are another number in a FIT than in it");
    due("from 0", chain().changed(20000), 2);
    due("none", based(chain(), 1, 1, 0).changed(20000), 0);
    due("none, by the last FIT", based(chain(), 2, 0, 1).changed(20000), 0);
    due("one", based(chain(), 2, 0, 0).changed(20000), 1);
    due("all", based(chain(), 200, 200, 200).changed(20000), 3);
    due("no FIT but 0, none told", new LoadsUnseen().changed(1), 0);
    sentence(22, "PAIRS that are CUT, or that are 0 as no LINE is told");
    LoadsUnseen all = made(6);
    for (int a = 0; a < 6; a++) for (int b = 0; b < 6; b++) if (a != b) all.base(a, b, 200);
    due("all 30 are CUT", all.changed(1), 30);
    LoadsUnseen cut = new LoadsUnseen();
    cut.base(1, 0, 1);
    cut.meter(1, 0, 1);
    due("CUT, METERED as in the BASE, but 0", cut.changed(1), 1);
    LoadsUnseen untold = made(2, 0, 1);
    untold.base(0, 1, 200);
    due("0 as none is told", untold.changed(1), 1);
    untold.meter(0, 1, 200);
    due("METERED as in the BASE", untold.changed(1), 0);
    sentence(22, "the first FIT with so few that SEEKING meets tells them");
    LoadsUnseen x = chain();
    x.changed(7);
    dueFit(x, 1, 1, 0);
    based(x, 200, 200, 200).changed(7);
    dueFit(x, 1, 1, 0);
    based(x, 2, 200, 200).changed(7);
    dueFit(x, 2, 0, 1);
    based(x, 1, 0, 200).changed(7);
    dueFit(x, 1, 1, 0);
    sentence(22, "NONE: there is no FIT");
    LoadsUnseen none = unfit();
    due("by just enough", none.changed(3), NONE);
    dueFit(none, NONE, NONE, NONE);
    due("tries()", none.tries(), 3);
    due("20000 TRIES", withNoFit(long20000()).changed(20000), NONE);
  }

  private static void changedRefused() {
    sentence(22, "by n TRIES (1 .. 20000)");
    due("no TRY", new LoadsUnseen().changed(1), 0);
    due("just enough", sought().changed(7), 2);
    due("20000 TRIES", long20000().changed(20000), 2);
    spentNoFit(Edge::long20001, "20001 TRIES", 20000, x -> x.changed(20000));
    sentence(22, "SPENT");
    for (int n = 1; n <= 6; n++) {
      int few = n;
      spentNoFit(Edge::sought, "changed(" + n + ")", n, x -> x.changed(few));
    }
    spentNoFit(() -> based(sought(), 1, 1, 0), "SPENT behind a FIT that is the BASE", 6, x -> x.changed(6));
    spentNoFit(Edge::rich, "changed(5)", 5, x -> x.changed(5));
    sentence(22, "BAD");
    for (int n : NO_TRIES) bad(Edge::rich, "changed(" + n + ")", x -> x.changed(n));
    sentence(22, "it leaves the net, asked() and findings as they were");
    LoadsUnseen x = sought();
    long digest = x.digest();
    x.changed(7);
    due("digest()", x.digest(), digest);
    due("asked()", x.asked(), 2);
    due("finding()", x.finding(), 0);
  }

  // ---- 23 worst

  /** A chain with a LINE beside each of its own: 0 and 3 from 0 to 1, 1 and 2 from 1 to 2. */
  private static LoadsUnseen doubled() {
    LoadsUnseen x = chain();
    due("line", x.line(0, 1, 2), 2);
    due("line", x.line(0, 0, 1), 3);
    return x;
  }

  private static void worst() {
    sentence(23, "over all FITS the most that all PAIRS together carry there, by ROUTES as they are then");
    due("what LINE 0 carried", doubled().worst(3, 0, 7), 2);
    due("what LINE 1 carried", doubled().worst(2, 1, 7), 1);
    due("as it was", doubled().worst(0, 3, 7), 2);
    due("nothing goes there", doubled().worst(3, 1, 7), 0);
    due("(0, 2) is CUT then, (0, 1) stays", chain().worst(0, 1, 7), 2);
    due("(0, 2) is CUT then, (1, 2) stays", chain().worst(1, 0, 7), 1);
    LoadsUnseen direct = made(3, 0, 1, 1, 2, 0, 2);
    for (int line = 0; line < 3; line++) direct.carried(line, 200);
    due("(0, 1) and (0, 2)", direct.worst(0, 2, 3), 400);
    due("(1, 2) and (0, 2)", direct.worst(1, 2, 3), 400);
    due("(0, 2) by its own LINE", direct.worst(2, 1, 3), 200);
    dueFit(direct, 200, 200, 200);
    sentence(23, "0: no PAIR is above 0");
    LoadsUnseen nought = made(3, 0, 1, 1, 2, 0, 2);
    due("none is told", nought.worst(0, 2, 1), 0);
    due("fit(0, 2)", nought.fit(0, 2), 0);
    nought.carried(2, 0);
    due("0 is told", nought.worst(0, 2, 1), 0);
    sentence(23, "a METERED PAIR with no LINE that is told, too");
    nought.meter(0, 2, 200);
    nought.carried(2, NONE);
    due("METERED 200", nought.worst(1, 2, 1), 200);
    sentence(23, "a DARK LINE, too");
    LoadsUnseen dark = doubled();
    due("line", dark.line(3, 0, 1), 4);
    dark.down(3, true);
    due("what LINE 0 carried", dark.worst(4, 0, 7), 2);
    sentence(23, "another one goes DOWN (then, not now)");
    LoadsUnseen now = doubled();
    long digest = now.digest();
    now.worst(3, 0, 7);
    due("told(0, 3)", now.told(0, 3), 0);
    due("route(0, 1, 0)", now.route(0, 1, 0), 0);
    due("digest()", now.digest(), digest);
  }

  private static void worstFit() {
    sentence(23, "that of worst(): the first with the most");
    LoadsUnseen x = doubled();
    x.worst(3, 0, 7);
    dueFit(x, 1, 1, 0);
    due("0 by all FITS", x.worst(3, 1, 7), 0);
    dueFit(x, 1, 1, 0);
    LoadsUnseen last = chain();
    last.worst(0, 1, 7);
    dueFit(last, 2, 0, 1);
    last.fits(4);
    last.worst(1, 0, 7);
    dueFit(last, 2, 0, 1);
    sentence(23, "NONE: there is no FIT");
    LoadsUnseen none = unfit();
    due("by just enough", none.worst(0, 1, 3), NONE);
    due("tries()", none.tries(), 3);
    dueFit(none, NONE, NONE, NONE);
    due("20000 TRIES", withNoFit(long20000()).worst(0, 1, 20000), NONE);
    sentence(23, "by n TRIES (1 .. 20000)");
    due("no TRY", made(2, 0, 1, 0, 1).worst(0, 1, 1), 0);
    due("just enough", sought().worst(0, 1, 7), 2);
    due("20000 TRIES: (2, 3) and (2, 4)", long20000().worst(0, 1, 20000), 99);
    due("20000 TRIES: (2, 4) and (5, 4)", long20000().worst(2, 3, 20000), 197);
    spentNoFit(Edge::long20001, "20001 TRIES", 20000, y -> y.worst(0, 1, 20000));
    sentence(23, "SPENT");
    for (int n = 1; n <= 6; n++) {
      int few = n;
      spentNoFit(Edge::sought, "worst(0, 1, " + n + ")", n, y -> y.worst(0, 1, few));
    }
  }

  private static void worstRefused() {
    sentence(23, "BAD");
    for (int n : NO_TRIES) bad(Edge::rich, "n " + n, x -> x.worst(0, 1, n));
    for (int line : NO_LINE) {
      bad(Edge::rich, "worst(" + line + ", 0, 5)", x -> x.worst(line, 0, 5));
      bad(Edge::rich, "worst(0, " + line + ", 5)", x -> x.worst(0, line, 5));
    }
    bad(LoadsUnseen::new, "no LINES", x -> x.worst(0, 1, 5));
    sentence(23, "BAD: also the same LINE");
    for (int line = 0; line < 4; line++) {
      int same = line;
      bad(Edge::rich, "worst(" + line + ", " + line + ", 20000)", x -> x.worst(same, same, 20000));
    }
    sentence(23, "STATE: one is DOWN");
    refused(Edge::rich, "the LINE", STATE, x -> x.worst(4, 0, 20000));
    refused(Edge::rich, "the other one", STATE, x -> x.worst(0, 4, 20000));
    Made both = () -> {
      LoadsUnseen x = rich();
      x.down(1, true);
      return x;
    };
    refused(both, "both", STATE, x -> x.worst(4, 1, 20000));
    LoadsUnseen third = doubled();
    third.down(2, true);
    due("a third one is DOWN", third.worst(3, 0, 7), 2);
    LoadsUnseen up = rich();
    up.down(4, false);
    due("DOWN no more: not STATE", up.worst(4, 0, 1), SPENT);
    sentence(23, "BAD ahead of STATE");
    bad(Edge::rich, "the same LINE", x -> x.worst(4, 4, 20000));
    bad(Edge::rich, "n 0", x -> x.worst(4, 0, 0));
    bad(Edge::rich, "n 20001", x -> x.worst(0, 4, 20001));
    bad(Edge::rich, "no LINE", x -> x.worst(4, 5, 20000));
    bad(Edge::rich, "no LINE", x -> x.worst(-1, 4, 20000));
    sentence(23, "STATE ahead of SPENT");
    due("SPENT, were it not DOWN", rich().fits(1), SPENT);
    refused(Edge::rich, "n 1", STATE, x -> x.worst(0, 4, 1));
  }

  // ---- 24 meters

  private static void dueMeters(LoadsUnseen x, int pairs, long bits, int tries) {
    due("meters(20000)", x.meters(20000), pairs);
    due("asked()", x.asked(), bits);
    due("tries()", x.tries(), tries);
  }

  private static void meters() {
    sentence(24, "the fewest PAIRS so that there is that FIT alone: none");
    dueMeters(new LoadsUnseen(), 0, 0, 0);
    LoadsUnseen one = made(2, 0, 1);
    one.carried(0, 200);
    // THE FIRST FIT by 1, the empty set by 1 again.
    dueMeters(one, 0, 0, 2);
    LoadsUnseen zero = made(3, 0, 1, 1, 2);
    zero.carried(0, 0);
    dueMeters(zero, 0, 0, 4);
    sentence(24, "if they are METERED as in THE FIRST FIT, .. that with the least bits (bit n for PAIR n)");
    LoadsUnseen two = made(3, 0, 1, 1, 2);
    two.carried(0, 2);
    // THE FIRST FIT by 2; the empty set by 4, at a second FIT; (0, 1) by 2: one FIT.
    dueMeters(two, 1, 1L << 1, 8);
    LoadsUnseen later = made(6, 5, 4, 4, 3, 4, 2);
    later.carried(0, 1);
    // (5, 2), (5, 3), (5, 4) are PAIRS 32, 33, 34. THE FIRST FIT 0, 0, 1 by 3; the empty set by 5, at 0, 1, 0; {32} by
    // 5, at it, too; {33} by 6, at 1, 0, 0; {34} by 6: as (5, 4) has all there, it is that FIT alone.
    dueMeters(later, 1, 1L << 34, 25);
    sentence(24, "bits beyond an int");
    LoadsUnseen high = made(6, 5, 4, 4, 3);
    high.carried(0, 2);
    dueMeters(high, 1, 1L << 33, 8);
    sentence(24, "PAIRS that SEEKING goes by and that are not METERED yet");
    LoadsUnseen yet = made(3, 0, 1, 1, 2);
    yet.carried(0, 2);
    yet.meter(0, 1, 1);
    dueMeters(yet, 0, 0, 4);
    yet.meter(0, 1, NONE);
    yet.meter(1, 2, 9);
    // As without it, and a TRY of (1, 2) behind each FIT.
    dueMeters(yet, 1, 1L << 1, 12);
    due("what was METERED stays, and no more is", yet.count(3), 1);
  }

  private static void metersOfMore() {
    sentence(24, "sets of PAIRS, by how many they are, then as numbers");
    LoadsUnseen x = made(6, 0, 1, 1, 2, 3, 4, 4, 5);
    x.carried(0, 1);
    x.carried(2, 1);
    // PAIRS 1 and 2 share LINE 0, 22 and 23 LINE 2. THE FIRST FIT 0, 1, 0, 1 by 4; the empty set by 6; {1} by 6, {2} by
    // 6, {22} by 8, {23} by 9; {1, 2} by 6; {1, 22} by 4: one FIT.
    dueMeters(x, 2, 1L << 1 | 1L << 22, 49);
    due("one too few", x.meters(48), SPENT);
    due("just enough", x.meters(49), 2);
    sentence(24, "METERED as in THE FIRST FIT: one that has all its LINES carry leaves no other FIT");
    LoadsUnseen three = made(6, 0, 1, 1, 2, 2, 0, 3, 4, 4, 5, 5, 3);
    three.carried(0, 1);
    three.carried(1, 1);
    three.carried(2, 1);
    three.carried(3, 0);
    // Of a ring of 3, (1, 2) and (2, 1) are 1 in THE FIRST FIT; with (2, 1), PAIR 13, at 1 there is no other one, but
    // with (0, 1), (0, 2), (1, 0), (2, 0) at 0, or (1, 2) at 1.
    due("one is enough", three.meters(20000), 1);
    due("asked()", three.asked(), 1L << 13);
    sentence(24, "not METERED yet (METERED behind an earlier call)");
    LoadsUnseen then = made(3, 0, 1, 1, 2);
    then.carried(0, 2);
    dueMeters(then, 1, 1L << 1, 8);
    then.meter(0, 2, 1);
    // (0, 1) 0; 1 with (0, 2) 1: THE FIRST FIT by 3. (0, 1) 2, too: the empty set by 4, and no other FIT.
    dueMeters(then, 0, 0, 7);
    sentence(24, "30 PAIRS that SEEKING goes by");
    dueMeters(ring(0), 0, 0, 60);
    spent(() -> ring(200), "far too many FITS", 20000, y -> y.meters(20000));
    for (int n : new int[] {29, 30, 31, 59}) spent(() -> ring(200), "meters(" + n + ")", n, y -> y.meters(n));
  }

  private static void metersTries() {
    sentence(24, "by n TRIES in all (those of one SEEKING behind the other)");
    due("no TRY", new LoadsUnseen().meters(1), 0);
    due("just enough", sought().meters(14), 1);
    for (int n : new int[] {1, 3, 4, 5, 10, 11, 12, 13}) {
      int few = n;
      spent(Edge::sought, "meters(" + n + ")", n, x -> x.meters(few));
    }
    spent(() -> withNoFit(long20001()), "20001 TRIES", 20000, x -> x.meters(20000));
    sentence(24, "SEEKING stops there at a second FIT");
    LoadsUnseen wide = made(3, 0, 1, 1, 2);
    wide.carried(0, 200);
    dueMeters(wide, 1, 1L << 1, 8);
    sentence(24, "NONE: there is no FIT");
    LoadsUnseen none = unfit();
    due("by just enough", none.meters(3), NONE);
    due("tries()", none.tries(), 3);
    due("asked() is left", none.asked(), 2);
    spent(Edge::unfit, "by one too few", 2, x -> x.meters(2));
    due("20000 TRIES", withNoFit(long20000()).meters(20000), NONE);
    sentence(24, "SPENT");
    spent(Edge::rich, "in THE FIRST FIT", 1, x -> x.meters(1));
    sentence(24, "BAD");
    for (int n : NO_TRIES) bad(Edge::rich, "meters(" + n + ")", x -> x.meters(n));
    sentence(24, "it leaves the net, the FIT and findings as they were");
    LoadsUnseen x = sought();
    long digest = x.digest();
    x.meters(14);
    due("digest()", x.digest(), digest);
    dueFit(x, 1, 1, 0);
    due("finding()", x.finding(), 0);
    due("many, behind it", x.many(7), 1);
    due("asked()", x.asked(), 2);
  }

  public static void main(String[] args) {
    base();
    changed();
    changedRefused();
    worst();
    worstFit();
    worstRefused();
    meters();
    metersOfMore();
    metersTries();
    end(21, 24);
  }
}
