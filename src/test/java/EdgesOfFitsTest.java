/** Promises 12 to 20, and what 'Terms' says of fits: each sentence that names a boundary. */
public final class EdgesOfFitsTest extends Edge {

  /** A LINE from 0 to 1 that carries so much. */
  private static LoadsUnseen carrying(int v) {
    LoadsUnseen x = made(2, 0, 1);
    due("carried", x.carried(0, v), NONE);
    return x;
  }

  /** (0, 1) and (0, 2) share a LINE that carries so much. */
  private static LoadsUnseen sharing(int v) {
    LoadsUnseen x = made(3, 0, 1, 1, 2);
    due("carried", x.carried(0, v), NONE);
    return x;
  }

  private static LoadsUnseen metered(LoadsUnseen x, int a, int b, int v) {
    due("meter", x.meter(a, b, v), NONE);
    return x;
  }

  private static void dueFits(LoadsUnseen x, int answer, int tries) {
    due("fits(20000)", x.fits(20000), answer);
    due("its tries()", x.tries(), tries);
  }

  // ---- 12 carried

  private static void carried() {
    sentence(12, "a number (0 .. 200) or not told (NONE; at first): what it was");
    for (int line = 0; line < 3; line++) {
      LoadsUnseen x = kinds();
      due("at first", x.carried(line, 0), NONE);
      due("count(2)", x.count(2), 1);
      due("the least", x.carried(line, 200), 0);
      due("the most", x.carried(line, 200), 200);
      due("told", x.told(line, 4), 200);
      due("no more", x.carried(line, NONE), 200);
      due("count(2)", x.count(2), 0);
      due("no more, again", x.carried(line, NONE), NONE);
    }
    sentence(12, "of a LINE that is DOWN, too");
    LoadsUnseen down = rich();
    due("told", down.carried(4, 5), NONE);
    due("no more", down.carried(4, NONE), 5);
    sentence(12, "BAD");
    for (int v : NO_LOAD) bad(Edge::rich, "carried(0, " + v + ")", x -> x.carried(0, v));
    for (int line : NO_LINE) {
      bad(Edge::rich, "carried(" + line + ", 1)", x -> x.carried(line, 1));
      bad(Edge::rich, "carried(" + line + ", NONE)", x -> x.carried(line, NONE));
    }
    sentence(12, "UNLIKE: it is DARK");
    for (int v : new int[] {0, 200, NONE}) found(Edge::rich, "carried(3, " + v + ")", UNLIKE, x -> x.carried(3, v));
    sentence(12, "BAD ahead of UNLIKE");
    for (int v : NO_LOAD) bad(Edge::rich, "carried(3, " + v + ")", x -> x.carried(3, v));
  }

  // ---- 13 meter

  private static void meter() {
    sentence(13, "0 .. 200 (NONE: no more): what it was (NONE)");
    LoadsUnseen x = made(6, 0, 1);
    for (int[] pair : new int[][] {{0, 1}, {5, 4}, {0, 5}, {5, 0}}) {
      due("at first", x.meter(pair[0], pair[1], 0), NONE);
      due("0 is METERED", x.count(3), 1);
      due("the least", x.meter(pair[0], pair[1], 200), 0);
      due("the most", x.meter(pair[0], pair[1], NONE), 200);
      due("count(3)", x.count(3), 0);
      due("no more, again", x.meter(pair[0], pair[1], NONE), NONE);
    }
    sentence(13, "(a, b) and (b, a) are two PAIRS");
    x.meter(0, 1, 5);
    due("the other one", x.meter(1, 0, 6), NONE);
    due("the one", x.meter(0, 1, NONE), 5);
    due("the other one", x.meter(1, 0, NONE), 6);
    sentence(13, "BAD");
    for (int v : NO_LOAD) bad(Edge::rich, "meter(0, 3, " + v + ")", y -> y.meter(0, 3, v));
    for (int knot : NO_KNOT) {
      bad(Edge::rich, "meter(" + knot + ", 1, 5)", y -> y.meter(knot, 1, 5));
      bad(Edge::rich, "meter(1, " + knot + ", NONE)", y -> y.meter(1, knot, NONE));
    }
    for (int knot = 0; knot < 4; knot++) {
      int same = knot;
      bad(Edge::rich, "the same KNOT", y -> y.meter(same, same, 5));
      bad(Edge::rich, "the same KNOT", y -> y.meter(same, same, NONE));
    }
  }

  private static void meterInFits() {
    sentence(13, "it is just so much in a FIT");
    dueFits(metered(carrying(5), 0, 1, 5), 1, 1);
    dueFits(metered(carrying(5), 0, 1, 4), 0, 0);
    dueFits(metered(carrying(5), 0, 1, 6), 0, 0);
    dueFits(metered(carrying(0), 0, 1, 0), 1, 1);
    dueFits(metered(carrying(0), 0, 1, 1), 0, 0);
    dueFits(metered(carrying(200), 0, 1, 200), 1, 1);
    dueFits(metered(carrying(200), 0, 1, 199), 0, 0);
    sentence(13, "just so much, with no LINE that is told");
    for (int v : new int[] {0, 1, 200}) {
      LoadsUnseen x = metered(made(2, 0, 1), 0, 1, v);
      dueFits(x, 1, 1);
      due("fit(0, 1)", x.fit(0, 1), v);
    }
    sentence(13, "NONE: no more (free again)");
    LoadsUnseen x = metered(carrying(5), 0, 1, 6);
    dueFits(x, 0, 0);
    x.meter(0, 1, NONE);
    dueFits(x, 1, 1);
    due("fit(0, 1)", x.fit(0, 1), 5);
    sentence(13, "CUT ones are 0 always");
    LoadsUnseen cut = metered(made(2, 1, 0), 0, 1, 200);
    dueFits(cut, 1, 0);
    due("fit(0, 1)", cut.fit(0, 1), 0);
    cut.line(0, 0, 1);
    dueFits(cut, 1, 1);
    due("fit(0, 1), CUT no more", cut.fit(0, 1), 200);
    cut.down(1, true);
    dueFits(cut, 1, 0);
    due("fit(0, 1), CUT again", cut.fit(0, 1), 0);
  }

  // ---- 14 fits

  private static void seeking() {
    sentence(14, "a whole number, 0 or more: those of the PAIRS are CARRIED together");
    LoadsUnseen none = sharing(0);
    dueFits(none, 1, 2);
    due("fit(0, 1)", none.fit(0, 1), 0);
    due("fit(0, 2)", none.fit(0, 2), 0);
    LoadsUnseen one = carrying(200);
    dueFits(one, 1, 1);
    due("the most", one.fit(0, 1), 200);
    sentence(14, "with the numbers that can be, the least first, each a TRY");
    LoadsUnseen most = sharing(200);
    dueFits(most, 1, 2);
    due("the least PAIR has the least", most.fit(0, 1), 0);
    due("the last one what is left", most.fit(0, 2), 200);
    due("many", most.many(20000), 1);
    due("FITS", most.asked(), 201);
    due("tries()", most.tries(), 402);
    sentence(14, "none above what is left of CARRIED on a LINE of its ROUTE that is told");
    dueFits(chain(), 1, 4);
    sentence(14, "just what is left there, if no PAIR that is sought behind it goes there");
    dueFits(metered(sharing(2), 0, 2, 0), 1, 4);
    dueFits(metered(sharing(2), 0, 2, 3), 0, 3);
    dueFits(metered(sharing(2), 0, 1, 2), 1, 2);
    dueFits(metered(sharing(2), 0, 1, 3), 0, 0);
    LoadsUnseen two = made(4, 1, 2, 0, 1, 2, 3);
    two.carried(0, 3);
    two.carried(1, 2);
    two.carried(2, 1);
    // 0; 0; (0, 3) would be 2, above LINE 2. 0; 1; 1; 0; (1, 3) would be 1, above what is left on LINE 2. 1; 0; 0.
    dueFits(two, 1, 8);
    int[][] first = {{0, 1, 0}, {0, 2, 1}, {0, 3, 1}, {1, 2, 1}, {1, 3, 0}, {2, 3, 0}};
    for (int[] pair : first) due("fit(" + pair[0] + ", " + pair[1] + ")", two.fit(pair[0], pair[1]), pair[2]);
  }

  private static void leftOver() {
    sentence(14, "Behind the last PAIR it is a FIT, if nothing is left on any LINE that is told");
    LoadsUnseen beside = made(2, 0, 1, 0, 1);
    beside.carried(1, 1);
    dueFits(beside, 0, 0);
    beside.carried(1, 0);
    dueFits(beside, 1, 0);
    beside.carried(1, 200);
    beside.carried(0, 3);
    dueFits(beside, 0, 1);
    beside.carried(1, NONE);
    dueFits(beside, 1, 1);
    LoadsUnseen down = carrying(1);
    down.down(0, true);
    dueFits(down, 0, 0);
    down.carried(0, 0);
    dueFits(down, 1, 0);
    sentence(14, "PAIRS that are not METERED and whose ROUTE has no such LINE are 0 in a FIT");
    LoadsUnseen untold = made(3, 0, 1, 1, 2);
    dueFits(untold, 1, 0);
    due("fit(0, 2)", untold.fit(0, 2), 0);
    untold.carried(0, 4);
    dueFits(untold, 1, 2);
    due("fit(1, 2)", untold.fit(1, 2), 0);
    untold.carried(0, NONE);
    dueFits(untold, 1, 0);
    due("fit(0, 2), told no more", untold.fit(0, 2), 0);
    LoadsUnseen dark = made(2);
    dark.line(3, 0, 1);
    dueFits(dark, 1, 0);
    due("fit(0, 1) by a DARK LINE", dark.fit(0, 1), 0);
    sentence(14, "12 LINES, all told");
    LoadsUnseen beside12 = made(2, 0, 1, 0, 1, 0, 1, 0, 1, 0, 1, 0, 1, 0, 1, 0, 1, 0, 1, 0, 1, 0, 1, 0, 1);
    for (int line = 0; line < 12; line++) beside12.carried(line, 0);
    dueFits(beside12, 1, 1);
    beside12.carried(0, 200);
    dueFits(beside12, 1, 1);
    due("fit(0, 1)", beside12.fit(0, 1), 200);
    beside12.carried(11, 1);
    dueFits(beside12, 0, 1);
    sentence(14, "30 PAIRS, all sought");
    dueFits(ring(0), 1, 30);
    due("just enough", ring(0).fits(30), 1);
    due("one too few", ring(0).fits(29), SPENT);
    LoadsUnseen ring = ring(200);
    // (4, 5) is the last on LINE 4, (5, 4) on all the others.
    dueFits(ring, 1, 30);
    for (int a = 0; a < 6; a++) {
      for (int b = 0; b < 6; b++) {
        if (a != b) due("fit(" + a + ", " + b + ")", ring.fit(a, b), a + b == 9 ? 200 : 0);
      }
    }
    sentence(14, "no LINES at all");
    dueFits(new LoadsUnseen(), 1, 0);
    LoadsUnseen wide = made(6);
    dueFits(wide, 1, 0);
    due("fit(5, 4)", wide.fit(5, 4), 0);
  }

  private static void fits() {
    sentence(14, "n TRIES at most (1 .. 20000)");
    due("no TRY", new LoadsUnseen().fits(1), 1);
    due("one TRY", carrying(7).fits(1), 1);
    due("20000, none told too many", carrying(7).fits(20000), 1);
    due("20000 TRIES", withNoFit(long20000()).fits(20000), 0);
    spentNoFit(() -> withNoFit(long20001()), "20001 TRIES", 20000, x -> x.fits(20000));
    sentence(14, "BAD");
    for (int n : NO_TRIES) bad(Edge::rich, "fits(" + n + ")", x -> x.fits(n));
    sentence(14, "SPENT");
    for (int n = 1; n <= 3; n++) {
      int few = n;
      spentNoFit(Edge::sought, "fits(" + n + ")", n, x -> x.fits(few));
    }
    due("fits(4)", sought().fits(4), 1);
    due("fits(5)", sought().fits(5), 1);
    spentNoFit(Edge::rich, "fits(1)", 1, x -> x.fits(1));
    sentence(14, "Whether there is a FIT: 0");
    LoadsUnseen none = unfit();
    due("by just enough", none.fits(3), 0);
    due("tries()", none.tries(), 3);
    spentNoFit(Edge::unfit, "by one too few", 2, x -> x.fits(2));
    sentence(14, "1, 0 leave the net, asked() and findings as they were");
    LoadsUnseen x = sought();
    long digest = x.digest();
    x.fits(20000);
    due("digest()", x.digest(), digest);
    due("asked()", x.asked(), 2);
    due("finding()", x.finding(), 0);
  }

  // ---- 15 fit

  private static void fit() {
    sentence(15, "NONE: there is none (before any)");
    dueFit(chain(), NONE, NONE, NONE);
    due("of a new object", new LoadsUnseen().fit(1, 0), NONE);
    sentence(15, "that the latest fits(), changed(), worst() told");
    LoadsUnseen x = sought();
    dueFit(x, 1, 1, 0);
    x.base(0, 1, 2);
    due("changed", x.changed(7), 1);
    dueFit(x, 2, 0, 1);
    x.fits(4);
    dueFit(x, 1, 1, 0);
    due("worst", x.worst(0, 1, 7), 2);
    dueFit(x, 2, 0, 1);
    sentence(15, "others tell none, and leave it");
    LoadsUnseen others = chain();
    seekOthers(others);
    dueFit(others, NONE, NONE, NONE);
    others = sought();
    seekOthers(others);
    dueFit(others, 1, 1, 0);
    sentence(15, "what is told behind it leaves it");
    others.carried(0, 200);
    others.meter(0, 1, 200);
    others.base(0, 1, 200);
    others.down(1, true);
    others.line(0, 0, 2);
    dueFit(others, 1, 1, 0);
    due("a PAIR that was CUT", others.fit(2, 0), 0);
    sentence(15, "NONE: there is none (the latest told none)");
    LoadsUnseen none = unfit();
    dueFit(none, 1, 1, 0);
    due("fits", none.fits(20), 0);
    dueFit(none, NONE, NONE, NONE);
    none = unfit();
    due("changed", none.changed(20), NONE);
    dueFit(none, NONE, NONE, NONE);
    none = unfit();
    due("worst", none.worst(0, 1, 20), NONE);
    dueFit(none, NONE, NONE, NONE);
    due("a PAIR that is CUT", none.fit(2, 0), NONE);
    none.meter(0, 2, NONE);
    none.fits(4);
    dueFit(none, 1, 1, 0);
  }

  private static void seekOthers(LoadsUnseen x) {
    due("many", x.many(7), 1);
    due("many", x.many(6), SPENT);
    due("bound", x.bound(0, 1, true, 7), 2);
    due("bound", x.bound(0, 1, true, 6), SPENT);
    due("sure", x.sure(7), 0);
    due("sure", x.sure(6), SPENT);
    due("meters", x.meters(14), 1);
    due("meters", x.meters(13), SPENT);
  }

  private static void fitRefused() {
    sentence(15, "BAD");
    for (int knot : NO_KNOT) {
      bad(Edge::rich, "fit(" + knot + ", 1)", x -> x.fit(knot, 1));
      bad(Edge::rich, "fit(1, " + knot + ")", x -> x.fit(1, knot));
    }
    for (int knot = 0; knot < 4; knot++) {
      int same = knot;
      bad(Edge::rich, "the same KNOT", x -> x.fit(same, same));
    }
    bad(Edge::chain, "BAD ahead of NONE", x -> x.fit(0, 3));
    bad(Edge::chain, "BAD ahead of NONE", x -> x.fit(2, 2));
  }

  // ---- 16 many

  private static void many() {
    sentence(16, "How many FITS there are: told by asked(): 1");
    dueMany(metered(chain(), 0, 2, 2), 0, 3);
    dueMany(new LoadsUnseen(), 1, 0);
    dueMany(carrying(200), 1, 1);
    dueMany(chain(), 2, 7);
    dueMany(metered(sharing(0), 1, 2, 200), 1, 3);
    dueMany(long20000(), 9900, 20000);
    dueMany(ring(0), 1, 30);
    spent(() -> ring(200), "30 PAIRS, far too many FITS", 20000, x -> x.many(20000));
    sentence(16, "by n TRIES (1 .. 20000)");
    due("no TRY", new LoadsUnseen().many(1), 1);
    due("one TRY", carrying(7).many(1), 1);
    due("just enough", sought().many(7), 1);
    spent(Edge::long20001, "20001 TRIES", 20000, x -> x.many(20000));
    sentence(16, "SPENT");
    for (int n = 1; n <= 6; n++) {
      int few = n;
      spent(Edge::sought, "many(" + n + ")", n, x -> x.many(few));
    }
    spent(Edge::rich, "many(5)", 5, x -> x.many(5));
    sentence(16, "BAD");
    for (int n : NO_TRIES) bad(Edge::rich, "many(" + n + ")", x -> x.many(n));
  }

  private static void dueMany(LoadsUnseen x, int fits, int tries) {
    due("many", x.many(20000), 1);
    due("asked()", x.asked(), fits);
    due("tries()", x.tries(), tries);
  }

  // ---- 17 bound

  private static void dueBounds(LoadsUnseen x, int a, int b, int least, int most) {
    due("LEAST of (" + a + ", " + b + ")", x.bound(a, b, false, 20000), least);
    due("MOST of (" + a + ", " + b + ")", x.bound(a, b, true, 20000), most);
  }

  private static void bound() {
    sentence(17, "LEAST (most: MOST) of a PAIR: over all FITS");
    dueBounds(chain(), 0, 1, 1, 2);
    dueBounds(chain(), 0, 2, 0, 1);
    dueBounds(chain(), 1, 2, 0, 1);
    dueBounds(sharing(200), 0, 1, 0, 200);
    dueBounds(sharing(200), 0, 2, 0, 200);
    dueBounds(sharing(0), 0, 2, 0, 0);
    dueBounds(carrying(200), 0, 1, 200, 200);
    dueBounds(metered(made(2, 0, 1), 0, 1, 200), 0, 1, 200, 200);
    dueBounds(sharing(200), 1, 2, 0, 0);
    sentence(17, "over all FITS (as they are now, not as an earlier call met them)");
    LoadsUnseen anew = sharing(200);
    dueBounds(anew, 0, 1, 0, 200);
    anew.carried(0, 3);
    dueBounds(anew, 0, 1, 0, 3);
    anew.meter(0, 2, 1);
    dueBounds(anew, 0, 1, 2, 2);
    anew.meter(0, 2, 4);
    dueBounds(anew, 0, 1, NONE, NONE);
    anew.meter(0, 2, NONE);
    dueBounds(anew, 0, 1, 0, 3);
    dueBounds(ring(0), 5, 4, 0, 0);
    sentence(17, "CUT ones are 0 always");
    dueBounds(metered(chain(), 2, 0, 200), 2, 0, 0, 0);
    dueBounds(new LoadsUnseen(), 1, 0, 0, 0);
    sentence(17, "NONE: there is no FIT");
    dueBounds(metered(chain(), 0, 2, 2), 0, 1, NONE, NONE);
    dueBounds(metered(chain(), 0, 2, 2), 0, 2, NONE, NONE);
    dueBounds(metered(chain(), 0, 2, 2), 2, 0, NONE, NONE);
    sentence(17, "by n TRIES (1 .. 20000)");
    due("no TRY", new LoadsUnseen().bound(0, 1, true, 1), 0);
    due("one TRY", carrying(7).bound(0, 1, false, 1), 7);
    due("just enough", sought().bound(0, 1, false, 7), 1);
    due("20000 TRIES", long20000().bound(5, 4, true, 20000), 98);
    spent(Edge::long20001, "20001 TRIES", 20000, x -> x.bound(5, 4, true, 20000));
    sentence(17, "SPENT");
    for (int n = 1; n <= 6; n++) {
      int few = n;
      spent(Edge::sought, "LEAST by " + n, n, x -> x.bound(0, 1, false, few));
      spent(Edge::sought, "MOST by " + n, n, x -> x.bound(2, 0, true, few));
    }
    sentence(17, "BAD");
    for (int n : NO_TRIES) bad(Edge::rich, "n " + n, x -> x.bound(0, 1, true, n));
    for (int knot : NO_KNOT) {
      bad(Edge::rich, "from " + knot, x -> x.bound(knot, 1, true, 20000));
      bad(Edge::rich, "to " + knot, x -> x.bound(1, knot, false, 20000));
    }
    for (int knot = 0; knot < 4; knot++) {
      int same = knot;
      bad(Edge::rich, "the same KNOT", x -> x.bound(same, same, false, 20000));
    }
    bad(Edge::sought, "BAD ahead of SPENT", x -> x.bound(0, 3, false, 1));
  }

  // ---- 18 sure

  private static void sure() {
    sentence(18, "SURE is a PAIR of which they are alike");
    due("none is", chain().sure(20000), 0);
    due("(1, 2) is, with no LINE that is told", sharing(200).sure(20000), 1);
    due("all are, at 0", sharing(0).sure(20000), 3);
    due("all are, at the most", carrying(200).sure(20000), 1);
    due("all are, of 30", made(6, 0, 1, 1, 2, 2, 3, 3, 4, 4, 5, 5, 0).sure(1), 30);
    due("a METERED one is, and the others by it", metered(chain(), 0, 2, 1).sure(20000), 3);
    due("all are, of 30 that are sought", ring(0).sure(30), 30);
    sentence(18, "as FITS are now, not as an earlier call met them");
    LoadsUnseen anew = sharing(200);
    due("one", anew.sure(20000), 1);
    anew.carried(0, 0);
    due("three", anew.sure(20000), 3);
    anew.meter(0, 1, 1);
    due("no FIT", anew.sure(20000), NONE);
    anew.meter(0, 1, NONE);
    due("three", anew.sure(20000), 3);
    sentence(18, "CUT ones aside");
    due("both are CUT", new LoadsUnseen().sure(1), 0);
    due("both are CUT, one METERED", metered(new LoadsUnseen(), 0, 1, 5).sure(1), 0);
    due("one is CUT", made(2, 0, 1).sure(1), 1);
    sentence(18, "NONE: there is no FIT");
    due("no FIT", metered(chain(), 0, 2, 2).sure(20000), NONE);
    due("no FIT by just enough", metered(chain(), 0, 2, 2).sure(3), NONE);
    sentence(18, "by n TRIES (1 .. 20000)");
    due("one TRY", carrying(7).sure(1), 1);
    due("just enough", sought().sure(7), 0);
    due("20000 TRIES: (3, 4), (0, 1)", long20000().sure(20000), 2);
    spent(Edge::long20001, "20001 TRIES", 20000, x -> x.sure(20000));
    sentence(18, "SPENT");
    for (int n = 1; n <= 6; n++) {
      int few = n;
      spent(Edge::sought, "sure(" + n + ")", n, x -> x.sure(few));
    }
    sentence(18, "BAD");
    for (int n : NO_TRIES) bad(Edge::rich, "sure(" + n + ")", x -> x.sure(n));
  }

  // ---- 19 tries

  private static void dueTries(String call, Call asked, int tries) {
    LoadsUnseen x = chain();
    due(call + ", before", x.tries(), 0);
    asked.on(x);
    due(call + ", tries()", x.tries(), tries);
  }

  private static void tries() {
    sentence(19, "TRIES of the latest call that was told how many; 0 before");
    dueTries("fits", x -> x.fits(20000), 4);
    dueTries("many", x -> x.many(20000), 7);
    dueTries("bound", x -> x.bound(0, 1, false, 20000), 7);
    dueTries("bound", x -> x.bound(0, 1, true, 20000), 7);
    dueTries("sure", x -> x.sure(20000), 7);
    dueTries("changed", x -> x.changed(20000), 7);
    dueTries("worst", x -> x.worst(0, 1, 20000), 7);
    dueTries("meters", x -> x.meters(20000), 14);
    sentence(19, "n, if it was SPENT");
    dueTries("fits", x -> x.fits(3), 3);
    dueTries("many", x -> x.many(6), 6);
    dueTries("bound", x -> x.bound(0, 1, false, 1), 1);
    dueTries("sure", x -> x.sure(2), 2);
    dueTries("changed", x -> x.changed(6), 6);
    dueTries("worst", x -> x.worst(0, 1, 5), 5);
    dueTries("meters, in THE FIRST FIT", x -> x.meters(3), 3);
    dueTries("meters, behind it", x -> x.meters(4), 4);
    dueTries("meters, one too few", x -> x.meters(13), 13);
    sentence(19, "no FIT: as many as were made");
    Call[] seeking = {
      x -> x.fits(9), x -> x.many(9), x -> x.bound(0, 1, true, 9), x -> x.sure(9), x -> x.changed(9),
      x -> x.worst(0, 1, 9), x -> x.meters(9)
    };
    for (int i = 0; i < seeking.length; i++) {
      LoadsUnseen x = unfit();
      seeking[i].on(x);
      due("call " + i, x.tries(), 3);
    }
    sentence(19, "none were needed: 0 behind others");
    for (int i = 0; i < seeking.length; i++) {
      LoadsUnseen x = sought();
      x.net(2);
      x.line(0, 0, 1);
      x.line(0, 0, 1);
      due("call " + i + ", before", x.tries(), 4);
      seeking[i].on(x);
      due("call " + i, x.tries(), 0);
    }
    triesStay();
  }

  private static void triesStay() {
    sentence(19, "and was not BAD, STATE");
    for (int n : NO_TRIES) {
      Call[] bad = {
        x -> x.fits(n), x -> x.many(n), x -> x.bound(0, 1, true, n), x -> x.sure(n), x -> x.changed(n),
        x -> x.worst(0, 1, n), x -> x.meters(n)
      };
      for (Call one : bad) bad(Edge::sought, "n " + n, one);
    }
    Made down = () -> {
      LoadsUnseen x = sought();
      x.down(1, true);
      return x;
    };
    refused(down, "STATE", STATE, x -> x.worst(0, 1, 20000));
    refused(down, "STATE", STATE, x -> x.worst(1, 0, 20000));
    sentence(19, "others leave it");
    LoadsUnseen x = sought();
    x.guess(0, 1);
    x.mean(0);
    x.fit(0, 1);
    x.digest();
    x.carried(0, 9);
    x.meter(0, 1, 9);
    x.base(0, 1, 9);
    x.line(0, 2, 0);
    x.net(2);
    due("tries()", x.tries(), 4);
  }

  // ---- 20 guess

  private static void guess() {
    sentence(20, "OUT of a times IN of b by ALL, cut");
    LoadsUnseen x = made(3, 0, 1, 1, 2, 2, 0);
    x.carried(0, 1);
    x.carried(1, 1);
    due("1 by 2", x.guess(0, 1), 0);
    x.carried(1, 0);
    due("1 by 1", x.guess(0, 1), 1);
    x.carried(0, 200);
    x.carried(1, 199);
    due("200 times 200 by 399", x.guess(0, 1), 100);
    due("200 times 199 by 399", x.guess(0, 2), 99);
    due("199 times 199 by 399", x.guess(1, 2), 99);
    sentence(20, "OUT, IN: not told: 0");
    due("none told out of a", x.guess(2, 1), 0);
    due("none told into b", x.guess(1, 0), 0);
    sentence(20, "of all LINES from a (to b) together");
    LoadsUnseen most = made(6);
    for (int line = 0; line < 12; line++) most.carried(most.line(0, 0, 5), 200);
    due("12 LINES of 200", most.guess(0, 5), 2400);
    due("the other way", most.guess(5, 0), 0);
    due("from another one", most.guess(1, 5), 0);
    for (int line = 0; line < 12; line++) most.down(line, true);
    due("DOWN or not", most.guess(0, 5), 2400);
    sentence(20, "a PAIR that is CUT, too");
    LoadsUnseen cut = made(4, 0, 1, 2, 3);
    cut.carried(0, 6);
    cut.carried(1, 6);
    due("(0, 3) is CUT", cut.route(0, 3, -1), NONE);
    due("6 times 6 by 12", cut.guess(0, 3), 3);
    sentence(20, "NOUGHT (ALL: the sum of all OUT is 0)");
    found(LoadsUnseen::new, "no LINES", NOUGHT, y -> y.guess(0, 1));
    found(() -> made(2, 0, 1), "none told", NOUGHT, y -> y.guess(0, 1));
    found(() -> carrying(0), "0 told", NOUGHT, y -> y.guess(0, 1));
    found(EdgesOfFitsTest::richTold0, "0 told", NOUGHT, y -> y.guess(0, 1));
    due("1 told", carrying(1).guess(0, 1), 1);
    sentence(20, "BAD");
    for (int knot : NO_KNOT) {
      bad(Edge::rich, "guess(" + knot + ", 1)", y -> y.guess(knot, 1));
      bad(Edge::rich, "guess(1, " + knot + ")", y -> y.guess(1, knot));
    }
    for (int knot = 0; knot < 4; knot++) {
      int same = knot;
      bad(Edge::rich, "the same KNOT", y -> y.guess(same, same));
    }
    sentence(20, "BAD ahead of NOUGHT");
    bad(LoadsUnseen::new, "guess(0, 2)", y -> y.guess(0, 2));
    bad(EdgesOfFitsTest::richTold0, "guess(1, 1)", y -> y.guess(1, 1));
  }

  private static LoadsUnseen richTold0() {
    LoadsUnseen x = rich();
    x.carried(0, 0);
    x.carried(1, 0);
    return x;
  }

  public static void main(String[] args) {
    carried();
    meter();
    meterInFits();
    seeking();
    leftOver();
    fits();
    fit();
    fitRefused();
    many();
    bound();
    sure();
    tries();
    guess();
    end(12, 20);
  }
}
