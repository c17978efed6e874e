/**
 * Promises 25 to 29: each sentence that names a boundary. In rich() SHEETS 0, 1, 3 have 3, 0, 24 bytes; 2 is missing.
 */
public final class EdgesOfSheetsTest extends Edge {

  /** A SHEET 0 with the bytes 1, 2, .. */
  private static LoadsUnseen counted(int n) {
    LoadsUnseen x = new LoadsUnseen();
    due("sheet", x.sheet(0, n), n);
    for (int i = 0; i < n; i++) due("lay", x.lay(0, i, i + 1), 1000);
    return x;
  }

  private static void dueBytes(LoadsUnseen x, int s, int... bytes) {
    for (int i = 0; i < bytes.length; i++) due("byte " + i + " of " + s, x.lay(s, i, bytes[i]), 1000 + bytes[i]);
    due("behind the last of " + s, x.lay(s, bytes.length, 0), FINDING);
  }

  // ---- 25 sheet

  private static void sheet() {
    sentence(25, "A SHEET (0 .. 3) is there with n bytes 0 (0 .. 24): n");
    for (int s = 0; s < 4; s++) {
      for (int n : new int[] {0, 1, 23, 24}) {
        LoadsUnseen x = new LoadsUnseen();
        due("sheet(" + s + ", " + n + ")", x.sheet(s, n), n);
        dueBytes(x, s, new int[n]);
        due("it is there", x.tear(s), 1);
        for (int other = 0; other < 4; other++) due("none beside it", x.tear(other), FINDING);
      }
    }
    sentence(25, "n bytes 0 (one that is there, anew)");
    LoadsUnseen x = counted(24);
    due("as many", x.sheet(0, 24), 24);
    dueBytes(x, 0, new int[24]);
    x.lay(0, 23, 5);
    x.lay(0, 2, 5);
    due("fewer", x.sheet(0, 3), 3);
    dueBytes(x, 0, 0, 0, 0);
    x.lay(0, 2, 5);
    due("none", x.sheet(0, 0), 0);
    dueBytes(x, 0);
    due("more", x.sheet(0, 24), 24);
    dueBytes(x, 0, new int[24]);
    sentence(25, "BAD");
    for (int s : NO_SHEET) {
      bad(Edge::rich, "sheet(" + s + ", 0)", y -> y.sheet(s, 0));
      bad(Edge::rich, "sheet(" + s + ", 24)", y -> y.sheet(s, 24));
    }
    sentence(25, "BAD: also n above 24");
    for (int n : new int[] {25, 26, 256, MOST}) bad(Edge::rich, "sheet(0, " + n + ")", y -> y.sheet(0, n));
    sentence(25, "SIZE (fewer than none)");
    for (int n : new int[] {-1, -2, NONE, LEAST}) {
      found(Edge::rich, "sheet(0, " + n + ")", SIZE, y -> y.sheet(0, n));
      found(Edge::rich, "sheet(2, " + n + ")", SIZE, y -> y.sheet(2, n));
    }
    sentence(25, "BAD ahead of SIZE");
    for (int s : NO_SHEET) bad(Edge::rich, "sheet(" + s + ", -1)", y -> y.sheet(s, -1));
  }

  // ---- 26 lay

  private static void lay() {
    sentence(26, "A byte of a SHEET is v, cut to it: what it was, and 1000 more");
    int[][] cut = {
      {0, 0}, {1, 1}, {127, 127}, {128, -128}, {129, -127}, {255, -1}, {256, 0}, {257, 1}, {-1, -1}, {-128, -128},
      {-129, 127}, {-256, 0}, {-257, -1}, {MOST, -1}, {LEAST, 0}, {MOST - 128, 127}, {NONE, NONE}
    };
    for (int[] one : cut) {
      LoadsUnseen x = rich();
      due("77 was laid", x.lay(3, 23, one[0]), 1077);
      due("lay " + one[0], x.lay(3, 23, 0), 1000 + one[1]);
      due("0 was laid", x.lay(3, 23, 0), 1000);
    }
    sentence(26, "the first byte and the last; the others stay");
    LoadsUnseen x = counted(24);
    due("the first", x.lay(0, 0, -7), 1001);
    due("the second", x.lay(0, 1, 2), 1002);
    due("the last", x.lay(0, 23, -7), 1024);
    due("the one ahead", x.lay(0, 22, 23), 1023);
    sentence(26, "BAD");
    for (int s : NO_SHEET) bad(Edge::rich, "lay(" + s + ", 0, 1)", y -> y.lay(s, 0, 1));
    bad(Edge::rich, "BAD ahead of BEYOND", y -> y.lay(4, -1, 1));
    sentence(26, "NOTHING");
    found(Edge::rich, "lay(2, 0, 1)", NOTHING, y -> y.lay(2, 0, 1));
    found(Edge::rich, "ahead of BEYOND", NOTHING, y -> y.lay(2, -1, 1));
    found(Edge::rich, "ahead of BEYOND", NOTHING, y -> y.lay(2, 24, 1));
    sentence(26, "BEYOND");
    int[] none = {LEAST, NONE, -1, 3, 4, 23, 24, MOST};
    for (int i : none) found(Edge::rich, "lay(0, " + i + ", 1)", BEYOND, y -> y.lay(0, i, 1));
    for (int i : new int[] {-1, 24, 25, MOST}) found(Edge::rich, "lay(3, " + i + ", 1)", BEYOND, y -> y.lay(3, i, 1));
    for (int i : new int[] {-1, 0, 1}) found(Edge::rich, "lay(1, " + i + ", 1)", BEYOND, y -> y.lay(1, i, 1));
  }

  // ---- 27 play

  private static void play() {
    sentence(27, "0 .. 255 each, those below 0 and 256");
    int[][] bytes = {{0, 0}, {1, 1}, {127, 127}, {128, 128}, {-128, 128}, {-127, 129}, {-1, 255}, {255, 255}, {256, 0}};
    for (int line = 1; line <= 2; line++) {
      for (int[] one : bytes) {
        LoadsUnseen x = rich();
        x.lay(0, 0, one[0]);
        due("play", x.play(0, line), 3);
        due("byte " + one[0], x.reading(line, 0, 0), one[1]);
      }
    }
    sentence(27, "become READINGS of a LINE from HOUR 0 on: how many");
    for (int line = 1; line <= 2; line++) {
      LoadsUnseen x = counted(24);
      for (int kind = 0; kind < 4; kind++) x.line(kind, 0, 1);
      due("24 bytes", x.play(0, line), 24);
      for (int hour = 0; hour < 24; hour++) due("HOUR " + hour, x.reading(line, hour, 50), hour + 1);
      due("the other LINE", x.reading(3 - line, 0, NONE), NONE);
      x.sheet(1, 0);
      due("0 bytes", x.play(1, line), 0);
      for (int hour = 0; hour < 24; hour++) due("HOUR " + hour, x.reading(line, hour, 50), 50);
      x.sheet(1, 1);
      due("1 byte", x.play(1, line), 1);
      due("HOUR 0", x.reading(line, 0, 50), 0);
      for (int hour = 1; hour < 24; hour++) due("HOUR " + hour, x.reading(line, hour, 50), 50);
    }
    LoadsUnseen lost = rich();
    due("3 bytes", lost.play(0, 2), 3);
    due("the last of them", lost.reading(2, 2, 0), 1);
    due("lost behind them", lost.reading(2, 3, 0), NONE);
    due("kept behind them", lost.reading(2, 5, 0), 65535);
    due("the SHEET stays", lost.lay(0, 0, 0), 999);
    sentence(27, "BAD");
    for (int s : NO_SHEET) bad(Edge::rich, "play(" + s + ", 1)", y -> y.play(s, 1));
    for (int line : NO_LINE) bad(Edge::rich, "play(0, " + line + ")", y -> y.play(0, line));
    bad(Edge::rich, "BAD ahead of UNLIKE", y -> y.play(4, 0));
    bad(Edge::rich, "BAD ahead of NOTHING", y -> y.play(2, 5));
    sentence(27, "UNLIKE");
    found(Edge::rich, "KIND 0", UNLIKE, y -> y.play(0, 0));
    found(Edge::rich, "KIND 3", UNLIKE, y -> y.play(3, 3));
    found(Edge::rich, "a SHEET of no bytes", UNLIKE, y -> y.play(1, 0));
    found(Edge::rich, "ahead of NOTHING", UNLIKE, y -> y.play(2, 0));
    sentence(27, "NOTHING");
    found(Edge::rich, "COUNTED", NOTHING, y -> y.play(2, 1));
    found(Edge::rich, "METERED", NOTHING, y -> y.play(2, 2));
  }

  // ---- 28 tear

  private static void tear() {
    sentence(28, "A SHEET is missing: 1");
    for (int s = 0; s < 4; s++) {
      LoadsUnseen x = new LoadsUnseen();
      for (int other = 0; other < 4; other++) x.sheet(other, 8 * other);
      due("tear(" + s + ")", x.tear(s), 1);
      due("missing", x.lay(s, 0, 1), FINDING);
      due("finding()", x.finding(), NOTHING);
      due("again", x.tear(s), FINDING);
      for (int other = 0; other < 4; other++) if (other != s) due("the others stay", x.tear(other), 1);
    }
    LoadsUnseen x = counted(24);
    x.tear(0);
    due("there again", x.sheet(0, 24), 24);
    dueBytes(x, 0, new int[24]);
    sentence(28, "BAD");
    for (int s : NO_SHEET) bad(Edge::rich, "tear(" + s + ")", y -> y.tear(s));
    sentence(28, "NOTHING");
    found(Edge::rich, "tear(2)", NOTHING, y -> y.tear(2));
  }

  // ---- 29 copy

  private static void copy() {
    sentence(29, "n bytes of a SHEET, from one on, come to those of another one from one on: 1");
    LoadsUnseen x = counted(24);
    x.sheet(3, 24);
    due("all", x.copy(0, 0, 3, 0, 24), 1);
    for (int i = 0; i < 24; i++) due("byte " + i, x.lay(3, i, 0), 1001 + i);
    due("the last to the first", x.copy(0, 23, 3, 0, 1), 1);
    due("the first to the last", x.copy(0, 0, 3, 23, 1), 1);
    due("byte 0", x.lay(3, 0, 0), 1024);
    due("byte 1", x.lay(3, 1, 0), 1000);
    due("byte 22", x.lay(3, 22, 0), 1000);
    due("byte 23", x.lay(3, 23, 0), 1001);
    due("what they come from stays", x.lay(0, 23, 24), 1024);
    sentence(29, "n 0: none");
    for (int[] one : new int[][] {{0, 0}, {3, 24}, {3, 0}, {0, 24}, {1, 23}}) {
      LoadsUnseen y = rich();
      long digest = y.digest();
      due("copy(0, " + one[0] + ", 3, " + one[1] + ", 0)", y.copy(0, one[0], 3, one[1], 0), 1);
      due("digest()", y.digest(), digest);
    }
    due("of no bytes", rich().copy(1, 0, 1, 0, 0), 1);
    sentence(29, "perhaps itself, as if taken ahead");
    dueCopied(0, 1, 3, 1, 1, 2, 3, 5);
    dueCopied(1, 0, 3, 2, 3, 4, 4, 5);
    dueCopied(0, 1, 4, 1, 1, 2, 3, 4);
    dueCopied(1, 0, 4, 2, 3, 4, 5, 5);
    dueCopied(0, 0, 5, 1, 2, 3, 4, 5);
    dueCopied(0, 3, 2, 1, 2, 3, 1, 2);
    dueCopied(0, 4, 1, 1, 2, 3, 4, 1);
    dueCopied(4, 0, 1, 5, 2, 3, 4, 5);
  }

  private static void dueCopied(int i, int j, int n, int... bytes) {
    LoadsUnseen x = counted(5);
    due("copy(0, " + i + ", 0, " + j + ", " + n + ")", x.copy(0, i, 0, j, n), 1);
    dueBytes(x, 0, bytes);
  }

  private static void copyRefused() {
    sentence(29, "BAD");
    for (int s : NO_SHEET) {
      bad(Edge::rich, "from SHEET " + s, x -> x.copy(s, 0, 0, 0, 1));
      bad(Edge::rich, "to SHEET " + s, x -> x.copy(0, 0, s, 0, 1));
      bad(Edge::rich, "ahead of SIZE", x -> x.copy(s, 0, 0, 0, -1));
      bad(Edge::rich, "ahead of NOTHING", x -> x.copy(2, 0, s, 0, 1));
      bad(Edge::rich, "ahead of BEYOND", x -> x.copy(s, 0, 0, 9, 1));
    }
    sentence(29, "SIZE: n below 0");
    for (int n : new int[] {-1, -2, NONE, LEAST}) {
      found(Edge::rich, "n " + n, SIZE, x -> x.copy(0, 0, 3, 0, n));
      found(Edge::rich, "n " + n + ", ahead of NOTHING", SIZE, x -> x.copy(2, 0, 3, 0, n));
      found(Edge::rich, "n " + n + ", ahead of BEYOND", SIZE, x -> x.copy(0, 4, 3, 25, n));
    }
    sentence(29, "NOTHING: either");
    found(Edge::rich, "the one", NOTHING, x -> x.copy(2, 0, 3, 0, 1));
    found(Edge::rich, "the other", NOTHING, x -> x.copy(3, 0, 2, 0, 1));
    found(Edge::rich, "itself", NOTHING, x -> x.copy(2, 0, 2, 0, 0));
    found(Edge::rich, "none", NOTHING, x -> x.copy(3, 0, 2, 0, 0));
    found(Edge::rich, "ahead of BEYOND", NOTHING, x -> x.copy(0, 4, 2, 0, 1));
    found(Edge::rich, "ahead of BEYOND", NOTHING, x -> x.copy(2, 0, 0, 0, MOST));
    sentence(29, "BEYOND: not so many there");
    int[][] beyond = {
      {0, 0, 4}, {1, 0, 3}, {2, 0, 2}, {3, 0, 1}, {4, 0, 0}, {-1, 0, 0}, {-1, 0, 1}, {-1, 0, 3}, {LEAST, 0, 1},
      {MOST, 0, 1}, {MOST, 0, MOST}, {LEAST, 0, MOST}, {0, 0, MOST}, {1, 0, MOST}, {0, 22, 3}, {0, 23, 2}, {0, 24, 1},
      {0, 25, 0}, {0, -1, 0}, {0, -1, 1}, {0, LEAST, 1}, {0, MOST, 1}, {0, MOST, 3}, {NONE, 0, 1}, {0, NONE, 1}
    };
    for (int[] one : beyond) {
      String call = "copy(0, " + one[0] + ", 3, " + one[1] + ", " + one[2] + ")";
      found(Edge::rich, call, BEYOND, x -> x.copy(0, one[0], 3, one[1], one[2]));
    }
    found(Edge::rich, "from no bytes", BEYOND, x -> x.copy(1, 0, 3, 0, 1));
    found(Edge::rich, "to no bytes", BEYOND, x -> x.copy(3, 0, 1, 0, 1));
    found(Edge::rich, "itself", BEYOND, x -> x.copy(0, 0, 0, 1, 3));
    due("just so many there", rich().copy(0, 0, 3, 21, 3), 1);
    due("just so many there", rich().copy(3, 21, 0, 0, 3), 1);
  }

  public static void main(String[] args) {
    sheet();
    lay();
    play();
    tear();
    copy();
    copyRefused();
    end(25, 29);
  }
}
