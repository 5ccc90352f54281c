/** Boundary cases of promises 32 to 40, each answer read off a sentence of the document. */
public final class SheetsEdgesTest {
  private static final int BAD = Edges.BAD, NO = Edges.NO, NONE = Edges.NONE, NOTHING = Edges.NOTHING, KIND = Edges.KIND, INDEX = Edges.INDEX,
      SIZE = Edges.SIZE, MIN = Edges.MIN, MAX = Edges.MAX;

  public static void main(String[] args) {
    sheet(); missing(); mark(); shorts(); floats(); pour(); pourHeld(); reads(); readsBeyond();
    copy(); copyInside(); copyOverItself(); lay(); heldForGood(); ask(); item(); rest();
    Edges.end();
  }

  private static void due(int promise, String said, int got, int want) { Edges.due(promise, said, got, want); }

  /** A row as a slot shows it. */
  private static void rowIs(int promise, String said, UnderWhitewash x, int sheet, int... want) {
    x.lay(4, 2, sheet);
    for (int k = 0; k < want.length; k++) due(promise, said + ", place " + k, x.item(4, k), want[k]);
    due(promise, said + ", behind the last", x.item(4, want.length), INDEX);
  }

  private static UnderWhitewash rows(int sort, int... v) {
    UnderWhitewash x = new UnderWhitewash();
    x.sheet(0, sort, v.length);
    for (int k = 0; k < v.length; k++) x.mark(0, k, v[k]);
    return x;
  }

  // ---------------------------------------------------------------- 32

  private static void sheet() {
    Edges.outside(32, "SHEETS 0 .. 3", Edges::rich, 0, 3, (x, v) -> x.sheet(v, 0, 3));
    Edges.outside(32, "sorts -1 .. 1", Edges::rich, -1, 1, (x, v) -> x.sheet(0, v, 3));
    for (int s = 0; s < 2; s++) {
      int sort = s;
      for (int n : new int[] {25, 26, MAX}) Edges.unchanged(32, "n above 24", Edges::rich, BAD, x -> x.sheet(0, sort, n));
      for (int n : new int[] {-1, -2, MIN}) {
        Edges.unchanged(32, "n below 0", Edges::rich, SIZE, x -> x.sheet(0, sort, n));
        Edges.unchanged(32, "n below 0, and it was MISSING", Edges::rich, SIZE, x -> x.sheet(3, sort, n));
        Edges.unchanged(32, "BAD stands ahead of SIZE", Edges::rich, BAD, x -> x.sheet(4, sort, n));
      }
      for (int sheet = 0; sheet < 4; sheet += 3) for (int n : new int[] {0, 1, 23, 24}) {
        UnderWhitewash x = Edges.rich();
        due(32, "a row of n places", x.sheet(sheet, sort, n), n);
        rowIs(32, "all 0", x, sheet, new int[n]);
      }
    }
    Edges.unchanged(32, "BAD stands ahead of SIZE", Edges::rich, BAD, x -> x.sheet(0, 2, -1));
    Edges.unchanged(32, "as long as before, but all 0", SheetsEdgesTest::zeros, 3, x -> x.sheet(0, 1, 3));
  }

  private static UnderWhitewash zeros() { return rows(1, 0, 0, 0); }

  private static void missing() {
    for (int n : new int[] {0, 1, 24, 25, -1, MIN, MAX}) {
      Edges.unchanged(32, "MISSING, n any: it was", Edges::rich, 0, x -> x.sheet(3, -1, n));
      UnderWhitewash x = Edges.rich();
      due(32, "MISSING, n any: it was not", x.sheet(0, -1, n), 0);
      due(32, "it is MISSING", x.reads(0), NOTHING);
      due(32, "another one is not", x.reads(1), 0);
    }
  }

  // ---------------------------------------------------------------- 33

  private static void mark() {
    Edges.outside(33, "SHEETS 0 .. 3", Edges::rich, 0, 3, (x, v) -> x.mark(v, 0, 9));
    Edges.unchanged(33, "MISSING", Edges::rich, NOTHING, x -> x.mark(3, 0, 9));
    Edges.unchanged(33, "BAD stands ahead of NOTHING", Edges::fresh, BAD, x -> x.mark(4, 0, 9));
    Edges.unchanged(33, "NOTHING stands ahead of INDEX", Edges::rich, NOTHING, x -> x.mark(3, -1, NONE));
    for (int place : new int[] {-1, 3, 24, MIN, MAX})
      Edges.unchanged(33, "no place " + place + " of 3", Edges::rich, INDEX, x -> x.mark(0, place, 9));
    for (int place : new int[] {-1, 4, MIN, MAX})
      Edges.unchanged(33, "no place " + place + " of 4", Edges::rich, INDEX, x -> x.mark(1, place, 9));
    Edges.unchanged(33, "INDEX stands ahead of KIND", Edges::rich, INDEX, x -> x.mark(0, 3, NONE));
    Edges.unchanged(33, "INDEX stands ahead of BAD", Edges::rich, INDEX, x -> x.mark(1, 4, 100000));
    Edges.unchanged(33, "NONE in a row of shorts", Edges::rich, KIND, x -> x.mark(0, 2, NONE));
    for (int v : new int[] {100000, -100000, MIN, MAX, NONE + 1, NONE - 1, BAD})
      Edges.unchanged(33, "v of floats " + v, Edges::rich, BAD, x -> x.mark(1, 3, v));
    UnderWhitewash x = new UnderWhitewash();
    x.sheet(3, 0, 24);
    due(33, "the first place", x.mark(3, 0, 7), 1);
    due(33, "the last place", x.mark(3, 23, 8), 1);
    due(33, "behind the last", x.mark(3, 24, 8), INDEX);
    x.sheet(3, 0, 0);
    due(33, "a SHEET with no places", x.mark(3, 0, 7), INDEX);
  }

  private static void shorts() {
    int[][] rows = {{32767, 32767}, {32768, -32768}, {-32768, -32768}, {-32769, 32767}, {65535, -1}, {65536, 0}, {65537, 1}, {-1, -1}, {MIN, 0},
        {MAX, -1}, {100000, -31072}, {NONE + 1, (short) (NONE + 1)}, {NONE - 1, (short) (NONE - 1)}, {BAD, (short) BAD}};
    for (int[] r : rows) {
      UnderWhitewash x = rows(0, 5, 5, 5);
      due(33, "of shorts " + r[0], x.mark(0, 1, r[0]), 1);
      rowIs(33, "its lowest 16 bits", x, 0, 5, r[1], 5);
    }
  }

  private static void floats() {
    for (int v : new int[] {99999, -99999, 0, 1, -1, 32768, 65536, 99998}) {
      UnderWhitewash x = rows(1, 5, 5, 5);
      due(33, "of floats " + v, x.mark(0, 1, v), 1);
      rowIs(33, "v", x, 0, 5, v, 5);
      due(33, "NO NUMBER", x.mark(0, 1, NONE), 1);
      rowIs(33, "it is NO NUMBER", x, 0, 5, KIND, 5);
      due(33, "a number again", x.mark(0, 1, v), 1);
      rowIs(33, "it is", x, 0, 5, v, 5);
    }
  }

  // ---------------------------------------------------------------- 34, 35

  private static void pour() {
    Edges.outside(34, "SHEETS 0 .. 3", Edges::rich, 0, 3, (x, v) -> x.pour(v));
    Edges.unchanged(34, "MISSING", Edges::rich, NOTHING, x -> x.pour(3));
    Edges.Scene none = () -> {
      UnderWhitewash x = Edges.rich();
      x.sheet(0, 1, 0);
      x.sheet(1, 1, 6);
      for (int k = 0; k < 6; k++) x.mark(1, k, NONE);
      x.sheet(2, 0, 24);
      for (int k = 0; k < 6; k++) x.mark(2, k, x.told(k, 1));
      return x;
    };
    Edges.unchanged(34, "no places: all stays", none, 0, x -> x.pour(0));
    Edges.unchanged(34, "NO NUMBER: all stays", none, 0, x -> x.pour(1));
    Edges.unchanged(34, "as they are: none is otherwise", none, 0, x -> x.pour(2));
    UnderWhitewash x = rows(0, 1, 2, 3);
    due(34, "no MARKS", x.pour(0), 0);
  }

  private static void pourHeld() {
    int[][] rows = {{-1, 0}, {0, 0}, {1, 1}, {98, 98}, {99, 99}, {100, 99}, {99999, 99}, {-99999, 0}, {NONE, 50}};
    for (int[] r : rows) {
      UnderWhitewash x = rows(1, 50, r[0], 51);
      for (int k = 0; k < 4; k++) x.writes(0, 50, 0, 0);
      due(34, "held within 0 and 99: " + r[0], x.pour(0), r[1] == 50 ? 1 : 2);
      int[] want = {50, r[1], 51, 50};
      for (int k = 0; k < 4; k++) due(34, "INK " + k, x.told(k, 1), want[k]);
      due(34, "again none is otherwise", x.pour(0), 0);
    }
    UnderWhitewash x = rows(0, 32768, 32767, 1, 2, 3, 4, 5, 6, 7, 8, 9, 10);
    for (int k = 0; k < 10; k++) x.writes(0, 50, 0, 0);
    due(34, "ten MARKS, twelve places", x.pour(0), 10);
    due(34, "a short of 32768 is below 0", x.told(0, 1), 0);
    due(34, "a short of 32767", x.told(1, 1), 99);
    due(34, "the last MARK", x.told(9, 1), 8);
  }

  private static void reads() {
    Edges.outside(35, "SHEETS 0 .. 3", Edges::rich, 0, 3, (x, v) -> x.reads(v));
    Edges.unchanged(35, "MISSING", Edges::rich, NOTHING, x -> x.reads(3));
    Edges.unchanged(35, "the first place", Edges::rich, 0, x -> x.reads(0));
    UnderWhitewash x = new UnderWhitewash();
    x.sheet(0, 0, 0);
    due(35, "no places", x.reads(0), NONE);
    x.sheet(0, 0, 1);
    due(35, "of a place that is no MARK a number is not, 0 neither", x.reads(0), 0);
    x.sheet(0, 1, 1);
    x.mark(0, 0, NONE);
    due(35, "of a place that is no MARK, NO NUMBER", x.reads(0), NONE);
  }

  private static void readsBeyond() {
    UnderWhitewash x = new UnderWhitewash();
    for (int k = 0; k < 10; k++) x.writes(0, 1, 1, k % 6);
    x.sheet(0, 1, 24);
    for (int k = 0; k < 10; k++) x.mark(0, k, k % 6);
    due(35, "the eleventh place is no MARK", x.reads(0), 10);
    for (int k = 10; k < 23; k++) x.mark(0, k, NONE);
    due(35, "the last place", x.reads(0), 23);
    x.mark(0, 23, NONE);
    due(35, "there is none", x.reads(0), NONE);
    x.mark(0, 9, 2);
    due(35, "the last MARK", x.reads(0), 9);
    x.mark(0, 9, NONE);
    due(35, "NO NUMBER is passed over", x.reads(0), NONE);
    x.sheet(0, 0, 9);
    for (int k = 0; k < 9; k++) x.mark(0, k, k % 6);
    due(35, "fewer places than MARKS", x.reads(0), NONE);
    x.mark(0, 0, 65536);
    due(35, "the lowest 16 bits of 65536 are 0", x.reads(0), NONE);
  }

  // ---------------------------------------------------------------- 36

  private static void copy() {
    Edges.outside(36, "from SHEETS 0 .. 3", Edges::rich, 0, 3, (x, v) -> x.copy(v, 0, 0, 0, 1));
    Edges.outside(36, "to SHEETS 0 .. 3", Edges::rich, 0, 3, (x, v) -> x.copy(0, 0, v, 0, 1));
    Edges.unchanged(36, "from a MISSING one", Edges::rich, NOTHING, x -> x.copy(3, 0, 0, 0, 1));
    Edges.unchanged(36, "to a MISSING one", Edges::rich, NOTHING, x -> x.copy(0, 0, 3, 0, 1));
    Edges.unchanged(36, "BAD stands ahead of NOTHING", Edges::rich, BAD, x -> x.copy(3, 0, 4, 0, 1));
    Edges.unchanged(36, "BAD stands ahead of NOTHING", Edges::rich, BAD, x -> x.copy(4, 0, 3, 0, 1));
    Edges.unchanged(36, "NOTHING stands ahead of INDEX", Edges::rich, NOTHING, x -> x.copy(0, -1, 3, 0, 1));
    Edges.unchanged(36, "shorts to floats", Edges::rich, KIND, x -> x.copy(0, 0, 1, 0, 1));
    Edges.unchanged(36, "floats to shorts", Edges::rich, KIND, x -> x.copy(1, 0, 0, 0, 1));
    Edges.unchanged(36, "KIND though none are asked for", Edges::rich, KIND, x -> x.copy(1, 0, 0, 0, 0));
    Edges.unchanged(36, "KIND stands ahead of INDEX", Edges::rich, KIND, x -> x.copy(1, -1, 0, -1, -1));
    // SHEET 0 has 3 places, SHEET 2 has 5.
    int[][] index = {{-1, 0, 1}, {0, -1, 1}, {0, 0, -1}, {0, 0, 4}, {1, 0, 3}, {2, 0, 2}, {3, 0, 1}, {0, 3, 3}, {0, 4, 2}, {0, 5, 1}, {4, 0, 0},
        {0, 6, 0}, {-1, 0, 0}, {0, -1, 0}, {MIN, 0, 1}, {0, MIN, 1}, {0, 0, MIN}, {MAX, 0, 1}, {0, MAX, 1}, {0, 0, MAX}, {1, 1, MAX},
        {MAX, MAX, MAX}, {MIN, MIN, MIN}, {MAX, 0, MIN}, {3, 0, -1}, {MIN, 0, 0}, {MAX, 0, 0}};
    for (int[] i : index)
      Edges.unchanged(36, "no such place: " + i[0] + ", " + i[1] + ", " + i[2], Edges::rich, INDEX, x -> x.copy(0, i[0], 2, i[1], i[2]));
    int[][] none = {{0, 0}, {3, 5}, {2, 4}, {3, 0}, {0, 5}};
    for (int[] n : none) Edges.unchanged(36, "none, at " + n[0] + ", " + n[1], Edges::rich, 0, x -> x.copy(0, n[0], 2, n[1], 0));
    Edges.unchanged(36, "all of it to itself", Edges::rich, 3, x -> x.copy(0, 0, 0, 0, 3));
  }

  private static void copyInside() {
    UnderWhitewash x = new UnderWhitewash();
    x.sheet(0, 1, 24);
    x.sheet(3, 1, 24);
    for (int k = 0; k < 24; k++) x.mark(0, k, k % 5 == 4 ? NONE : 1000 + k);
    due(36, "all 24", x.copy(0, 0, 3, 0, 24), 24);
    int[] all = new int[24];
    for (int k = 0; k < 24; k++) all[k] = k % 5 == 4 ? KIND : 1000 + k;
    rowIs(36, "NO NUMBER comes along", x, 3, all);
    due(36, "the last to the first", x.copy(0, 23, 3, 0, 1), 1);
    all[0] = 1023;
    rowIs(36, "that alone", x, 3, all);
    due(36, "the first to the last", x.copy(0, 0, 3, 23, 1), 1);
    all[23] = 1000;
    rowIs(36, "that alone", x, 3, all);
    x.sheet(1, 1, 0);
    due(36, "none from a SHEET with no places", x.copy(1, 0, 3, 24, 0), 0);
    due(36, "one from it", x.copy(1, 0, 3, 0, 1), INDEX);
    due(36, "one to it", x.copy(3, 0, 1, 0, 1), INDEX);
  }

  private static void copyOverItself() {
    UnderWhitewash x = rows(0, 1, 2, 3, 4, 5);
    due(36, "upwards", x.copy(0, 0, 0, 1, 4), 4);
    rowIs(36, "as they were", x, 0, 1, 1, 2, 3, 4);
    due(36, "downwards", x.copy(0, 2, 0, 0, 3), 3);
    rowIs(36, "as they were", x, 0, 2, 3, 4, 3, 4);
  }

  // ---------------------------------------------------------------- 37

  private static void lay() {
    Edges.outside(37, "SLOTS 0 .. 4", Edges::rich, 0, 4, (x, v) -> x.lay(v, 3, 5));
    Edges.outside(37, "things 0 .. 3", Edges::rich, 0, 3, (x, v) -> x.lay(0, v, 0));
    Edges.outside(37, "six MARKS", Edges::rich, 0, 5, (x, v) -> x.lay(0, 1, v));
    Edges.outside(37, "ten MARKS", Edges::full, 0, 9, (x, v) -> x.lay(0, 1, v));
    Edges.outside(37, "SHEETS 0 .. 3", Edges::rich, 0, 3, (x, v) -> x.lay(0, 2, v));
    for (int s = 0; s < 5; s++) {
      int slot = s;
      Edges.unchanged(37, "that SHEET is MISSING", Edges::rich, NOTHING, x -> x.lay(slot, 2, 3));
    }
    Edges.unchanged(37, "BAD stands ahead of NOTHING", Edges::rich, BAD, x -> x.lay(5, 2, 3));
    for (int k : new int[] {0, -1, 6, MIN, MAX}) Edges.unchanged(37, "nothing, k any", Edges::rich, 0, x -> x.lay(4, 0, k));
    for (int slot = 0; slot < 5; slot += 4) {
      UnderWhitewash x = Edges.full();
      x.sheet(3, 1, 0);
      int[][] row = {{1, 9, 0}, {2, 3, 1}, {3, MAX, 2}, {0, 0, 3}, {3, MIN, 0}, {1, 0, 3}, {0, 0, 1}, {2, 3, 0}, {2, 3, 2}, {0, 0, 2}};
      for (int[] r : row) due(37, "what it held", x.lay(slot, r[0], r[1]), r[2]);
    }
  }

  private static void heldForGood() {
    UnderWhitewash x = new UnderWhitewash();
    x.writes(3, 81, 0, 0);
    x.set(0, 4, 10);
    x.sheet(0, 1, 2);
    x.mark(0, 1, NONE);
    x.keep();
    x.lay(0, 1, 0);
    x.lay(1, 2, 0);
    x.set(0, 1, 5);
    x.set(0, 4, 5);
    x.turns(0, 5);
    x.mark(0, 0, 9);
    x.mark(0, 1, 9);
    due(37, "a MARK as it is then: its WORTH", x.ask(0, 3), 45);
    due(37, "and its KIND", x.ask(0, 5), KIND);
    due(37, "a row of its own", x.item(1, 0), 0);
    due(37, "as it was then", x.item(1, 1), KIND);
    x.sheet(0, 0, 24);
    due(37, "with its places", x.item(1, 2), INDEX);
    x.lay(2, 2, 0);
    x.lay(2, 3, 4);
    due(37, "another SLOT's row is its own", x.item(1, 1), KIND);
    x.back();
    due(37, "for good", x.ask(0, 3), 45);
    UnderWhitewash y = new UnderWhitewash();
    y.keep();
    y.writes(1, 30, 0, 0);
    y.lay(0, 1, 0);
    y.back();
    due(37, "though there is no such MARK any more", y.ask(0, 1), 30);
  }

  // ---------------------------------------------------------------- 38 to 40

  private static void ask() {
    Edges.outside(38, "SLOTS 0 .. 4", Edges::rich, 0, 4, (x, v) -> x.ask(v, 0));
    Edges.outside(38, "KINDS 0 .. 5", Edges::rich, 0, 5, (x, v) -> x.ask(0, v));
    Edges.unchanged(38, "nothing", Edges::rich, NOTHING, x -> x.ask(4, 0));
    Edges.unchanged(38, "BAD stands ahead of NOTHING", Edges::rich, BAD, x -> x.ask(4, 6));
    Edges.unchanged(38, "BAD stands ahead of KIND", Edges::rich, BAD, x -> x.ask(3, 6));
    for (int slot = 1; slot <= 3; slot++) {
      int s = slot;
      for (int kind = 0; kind < 6; kind += 5) {
        int k = kind;
        Edges.unchanged(38, "it is no MARK", Edges::rich, KIND, x -> x.ask(s, k));
      }
    }
    int[][] above = {{0}, {0, 1}, {0, 2}, {0, 1, 3}, {0, 2, 4}, {0, 5}};
    int[] worth = {99, 10098, 0, 5049, 7, 9999};
    UnderWhitewash x = new UnderWhitewash();
    for (int m = 0; m < 6; m++) {
      x.writes(m, 99, 9999, 5);
      x.set(m, 4, 9999);
      x.lay(4, 1, m);
      for (int k = 0; k < 6; k++) {
        boolean of = false;
        for (int a : above[m]) of |= a == k;
        due(38, "a MARK of KIND " + m + " taken for one of " + k, x.ask(4, k), of ? worth[m] : KIND);
      }
    }
  }

  private static void item() {
    Edges.outside(39, "SLOTS 0 .. 4", Edges::rich, 0, 4, (x, v) -> x.item(v, 0));
    Edges.unchanged(39, "nothing", Edges::rich, NOTHING, x -> x.item(4, 0));
    Edges.unchanged(39, "NOTHING stands ahead of INDEX", Edges::rich, NOTHING, x -> x.item(4, -1));
    Edges.unchanged(39, "a MARK", Edges::rich, KIND, x -> x.item(0, 0));
    Edges.unchanged(39, "a number", Edges::rich, KIND, x -> x.item(3, 0));
    Edges.unchanged(39, "KIND stands ahead of INDEX", Edges::rich, KIND, x -> x.item(3, -1));
    for (int place : new int[] {-1, 3, 24, MIN, MAX}) Edges.unchanged(39, "3 places", Edges::rich, INDEX, x -> x.item(1, place));
    for (int place : new int[] {-1, 4, 24, MIN, MAX}) Edges.unchanged(39, "4 places", Edges::rich, INDEX, x -> x.item(2, place));
    Edges.unchanged(39, "the first", Edges::rich, 31000, x -> x.item(1, 0));
    Edges.unchanged(39, "the last", Edges::rich, 31002, x -> x.item(1, 2));
    Edges.unchanged(39, "the first of floats", Edges::rich, -90000, x -> x.item(2, 0));
    Edges.unchanged(39, "NO NUMBER", Edges::rich, KIND, x -> x.item(2, 3));
    UnderWhitewash x = new UnderWhitewash();
    x.sheet(0, 0, 0);
    x.lay(0, 2, 0);
    due(39, "a SHEET with no places", x.item(0, 0), INDEX);
  }

  private static void rest() {
    Edges.outside(40, "SLOTS 0 .. 4", Edges::rich, 0, 4, (x, v) -> x.rest(v, 1));
    Edges.unchanged(40, "BAD stands ahead of NO", Edges::rich, BAD, x -> x.rest(5, 0));
    Edges.unchanged(40, "NOTHING stands ahead of NO", Edges::rich, NOTHING, x -> x.rest(4, 0));
    for (int slot = 0; slot < 3; slot++) {
      int s = slot;
      Edges.unchanged(40, "it is no number", Edges::rich, KIND, x -> x.rest(s, 1));
      Edges.unchanged(40, "KIND stands ahead of NO", Edges::rich, KIND, x -> x.rest(s, 0));
    }
    Edges.unchanged(40, "n is 0", Edges::rich, NO, x -> x.rest(3, 0));
    int[][] rows = {{17, 5, 2}, {17, -5, 2}, {-17, 5, -2}, {-17, -5, -2}, {17, 1, 0}, {17, -1, 0}, {0, 7, 0}, {7, 7, 0}, {6, 7, 6}, {-7, 7, 0},
        {MIN, -1, 0}, {MIN, 1, 0}, {MIN, MIN, 0}, {MIN, MAX, -1}, {MAX, MIN, MAX}, {MAX, MAX, 0}, {MAX, -1, 0}, {-1, MIN, -1}};
    for (int[] r : rows) {
      UnderWhitewash x = new UnderWhitewash();
      x.lay(4, 3, r[0]);
      due(40, "the rest of " + r[0] + " by " + r[1], x.rest(4, r[1]), r[2]);
    }
  }
}
