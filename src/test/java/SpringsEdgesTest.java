/** Boundary cases of promises 13 to 16, each answer read off a sentence of the document. */
public final class SpringsEdgesTest {
  private static final int BAD = Edges.BAD;

  public static void main(String[] args) {
    breathe(); legible(); fadesWhereSeen(); dig(); digCoats(); digWide(); digDepth();
    springs(); lastSpring(); coatsAtMost(); thickDivides(); wideAtLeast(); wideAhead(); wheel(); order(); spoons(); dugBySpoon();
    shownAtMost(); dugAtMost(); walls();
    Edges.end();
  }

  private static void due(int promise, String said, int got, int want) { Edges.due(promise, said, got, want); }

  // ---------------------------------------------------------------- 13

  private static void breathe() {
    Edges.outside(13, "CELLS 0 .. 5", Edges::rich, 0, 5, (x, v) -> x.breathe(v));
    Edges.unchanged(13, "a CELL with no MARKS", Edges::rich, 0, x -> x.breathe(5));
    UnderWhitewash x = new UnderWhitewash();
    for (int k = 0; k < 10; k++) x.writes(k % 6, 99, 0, 5);
    due(13, "all ten", x.breathe(5), 10);
    due(13, "SHOWN", x.walls(0), 10);
    x.rule(1, 99);
    for (int k = 0; k < 10; k++) x.set(k, 1, 0);
    due(13, "none of ten", x.breathe(5), 0);
    due(13, "SHOWN as it was", x.walls(0), 10);
  }

  private static void legible() {
    for (int eyes = 0; eyes <= 99; eyes += 33) {
      UnderWhitewash x = new UnderWhitewash();
      x.rule(1, eyes);
      x.writes(0, eyes, 0, 0);
      due(13, "it shows as much as EYES", x.walls(6), 1);
      due(13, "it is SEEN", x.breathe(0), 1);
      if (eyes > 0) {
        x.set(0, 1, eyes - 1);
        due(13, "it shows 1 less", x.walls(6), 0);
        due(13, "it is not SEEN", x.breathe(0), 0);
        due(13, "SEEN but once", x.told(0, 4), 1);
        due(13, "no INK fades", x.told(0, 1), eyes - 1);
      }
    }
    UnderWhitewash x = new UnderWhitewash();
    x.rule(1, 0);
    x.writes(0, 0, 9999, 0);
    due(13, "with EYES 0 one that shows 0 is LEGIBLE", x.breathe(0), 1);
    x.writes(5, 0, 9999, 1);
    x.rule(1, 20);
    due(13, "a LEANT one with EYES 20", x.breathe(1), 1);
    x.rule(1, 21);
    due(13, "a LEANT one with EYES 21", x.breathe(1), 0);
  }

  private static void fadesWhereSeen() {
    int[] fades = {1, 1, 0, 3, 3, 5};
    for (int kind = 0; kind < 6; kind++) for (int ink : new int[] {0, 1, 2, 3, 4, 5, 6, 99}) {
      UnderWhitewash x = new UnderWhitewash();
      x.rule(1, 0);
      x.writes(kind, ink, 0, 0);
      x.set(0, 4, 9998);
      x.breathe(0);
      due(13, "INK of KIND " + kind + " 0 at least", x.told(0, 1), Math.max(0, ink - fades[kind]));
      due(13, "SEEN 9999", x.told(0, 4), 9999);
      due(13, "SEEN 9999 at most: still LEGIBLE", x.breathe(0), 1);
      due(13, "SEEN 9999 at most", x.told(0, 4), 9999);
      due(13, "SHOWN goes on", x.walls(0), 2);
    }
    UnderWhitewash x = new UnderWhitewash();
    x.writes(0, 20, 0, 0);
    x.writes(0, 20, 0, 1);
    due(13, "the CELL alone", x.breathe(0), 1);
    due(13, "another CELL's is not SEEN", x.told(1, 4), 0);
    due(13, "nor does it fade", x.told(1, 1), 20);
    due(13, "not LEGIBLE any more", x.breathe(0), 0);
  }

  // ---------------------------------------------------------------- 14

  private static void dig() {
    Edges.outside(14, "CELLS 0 .. 5", Edges::rich, 0, 5, (x, v) -> x.dig(v, 3));
    Edges.outside(14, "n 0 .. 99", Edges::rich, 0, 99, (x, v) -> x.dig(2, v));
    for (int c = 0; c < 6; c++) {
      int cell = c;
      Edges.unchanged(14, "by 0", Edges::rich, 0, x -> x.dig(cell, 0));
    }
  }

  private static void digCoats() {
    int[][] rows = {{0, 0, 0}, {0, 99, 0}, {1, 1, 1}, {5, 4, 4}, {5, 5, 5}, {5, 6, 5}, {98, 99, 98}, {99, 99, 99}, {100, 99, 99}, {9999, 99, 99}};
    for (int[] r : rows) {
      UnderWhitewash x = new UnderWhitewash();
      x.cell(5, 1, r[0]);
      due(14, r[0] + " COATS DUG by " + r[1], x.dig(5, r[1]), r[2]);
      due(14, "not below 0", x.cellOf(5, 1), r[0] - r[2]);
      due(14, "by so much DUG is more", x.walls(1), r[2]);
    }
  }

  private static void digWide() {
    int[][] rows = { // THICK, WIDE, n, WIDE then
        {3, 60, 2, 60}, {3, 60, 3, 61}, {3, 60, 5, 61}, {3, 60, 99, 93}, {3, 98, 3, 99}, {3, 98, 6, 99}, {3, 99, 3, 99}, {3, 66, 99, 99},
        {3, 67, 99, 99}, {1, 0, 99, 99}, {1, 1, 99, 99}, {1, 0, 98, 98}, {9, 60, 8, 60}, {9, 60, 9, 61}, {9, 88, 99, 99}, {9, 0, 0, 0}};
    for (int[] r : rows) for (int coats : new int[] {0, 9999}) {
      UnderWhitewash x = new UnderWhitewash();
      x.rule(0, r[0]);
      x.cell(2, 0, r[1]);
      x.cell(2, 1, coats);
      x.dig(2, r[2]);
      due(14, "WIDE " + r[1] + " is more by " + r[2] + " / " + r[0] + " (99 at most)", x.cellOf(2, 0), r[3]);
      due(14, "another CELL is as it was", x.cellOf(1, 0), 60);
    }
  }

  private static void digDepth() {
    int[][] rows = {{0, 5, 0}, {4, 5, 0}, {5, 5, 0}, {6, 5, 1}, {98, 99, 0}, {99, 99, 0}, {100, 99, 1}, {9999, 99, 9900}, {7, 0, 7}};
    for (int kind = 0; kind < 6; kind++) for (int[] r : rows) {
      UnderWhitewash x = new UnderWhitewash();
      x.writes(kind, 50, r[0], 3);
      x.writes(kind, 50, r[0], 4);
      x.dig(3, r[1]);
      due(14, "DEPTH " + r[0] + " is " + r[1] + " less (0 at least), though there are no COATS", x.told(0, 2), r[2]);
      due(14, "another CELL's is as it was", x.told(1, 2), r[0]);
    }
  }

  // ---------------------------------------------------------------- 15

  private static void springs() {
    Edges.outside(15, "n 1 .. 100", Edges::rich, 1, 100, (x, v) -> x.springs(v));
    Edges.outside(15, "n 1 .. 100, when none is left", Edges::old, 1, 100, (x, v) -> x.springs(v));
    UnderWhitewash x = new UnderWhitewash();
    x.springs(1);
    due(15, "one", x.count(1), 1);
    x.springs(100);
    due(15, "a hundred", x.count(1), 101);
    due(15, "a COAT each", x.cellOf(5, 1), 101);
  }

  private static void lastSpring() {
    for (int n : new int[] {1, 2, 100}) {
      UnderWhitewash x = Edges.aged(9998);
      x.writes(5, 50, 0, 2);
      x.cell(0, 1, 100);
      due(15, "9998 by 6 leaves 2", x.springs(n), 1);
      due(15, "no more than up to 9999", x.count(1), 9999);
      due(15, "one COAT", x.cellOf(0, 1), 101);
      Edges.unchanged(15, "none is left", Edges::old, 0, y -> y.springs(n));
    }
    UnderWhitewash x = Edges.aged(9899);
    due(15, "just a hundred are left", x.springs(100), 0);
    due(15, "9999", x.count(1), 9999);
  }

  private static void coatsAtMost() {
    UnderWhitewash x = new UnderWhitewash();
    x.cell(5, 1, 9998);
    int[] kinds = {0, 1, 2, 3, 4, 5}, sinks = {1, 1, 1, 2, 2, 0};
    for (int k : kinds) x.writes(k, 0, 9998, 5);
    x.springs(1);
    due(15, "COATS 9999", x.cellOf(5, 1), 9999);
    for (int k : kinds) due(15, "DEPTH 9999 at most", x.told(k, 2), Math.min(9999, 9998 + sinks[k]));
    x.springs(1);
    due(15, "COATS 9999 at most", x.cellOf(5, 1), 9999);
    for (int k : kinds) due(15, "DEPTH 9999 at most", x.told(k, 2), k == 5 ? 9998 : 9999);
    due(15, "DEPTH of all", x.walls(2), 5 * 9999 + 9998);
  }

  private static void thickDivides() {
    for (int thick = 1; thick <= 9; thick++) {
      UnderWhitewash x = new UnderWhitewash();
      x.rule(0, thick);
      int wide = 60;
      for (int coats = 1; coats <= 20; coats++) {
        x.springs(1);
        if (coats % thick == 0) wide--;
        due(15, "THICK " + thick + " and " + coats + " COATS", x.cellOf(4, 0), wide);
      }
      x.cell(4, 1, 9999);
      x.springs(1);
      due(15, "THICK " + thick + " and 9999 COATS again", x.cellOf(4, 0), wide - (9999 % thick == 0 ? 1 : 0));
    }
  }

  private static void wideAtLeast() {
    UnderWhitewash x = new UnderWhitewash();
    x.rule(0, 1);
    x.cell(3, 0, 1);
    x.springs(1);
    due(15, "WIDE 0", x.cellOf(3, 0), 0);
    x.springs(1);
    due(15, "WIDE 0 at least", x.cellOf(3, 0), 0);
    x.springs(100);
    due(15, "still", x.cellOf(3, 0), 0);
  }

  private static void wideAhead() {
    UnderWhitewash x = new UnderWhitewash();
    x.rule(0, 1);
    x.cell(4, 0, 30);
    x.writes(2, 0, 0, 4);
    x.writes(4, 0, 0, 4);
    x.springs(1);
    due(15, "narrowed by this COAT", x.cellOf(4, 0), 29);
    due(15, "a SHIP sinks by the WIDE ahead of it", x.told(0, 2), 1);
    due(15, "a VERSE, too", x.told(1, 2), 2);
    x.springs(1);
    due(15, "a SHIP by the next", x.told(0, 2), 3);
    due(15, "a VERSE by the next", x.told(1, 2), 5);
  }

  private static void wheel() {
    UnderWhitewash x = new UnderWhitewash();
    for (int c = 0; c < 6; c++) x.writes(5, 99, 0, c);
    for (int spring = 0; spring < 14; spring++) {
      int was = x.told(spring % 6, 4);
      due(15, "SPRING " + spring + ": one CELL", x.springs(1), 1);
      due(15, "the rest by 6", x.told(spring % 6, 4), was + 1);
    }
  }

  private static void order() {
    UnderWhitewash x = new UnderWhitewash();
    x.writes(0, 21, 0, 0);
    x.writes(0, 21, 1, 0);
    due(15, "(1) the COAT comes ahead of (2) the BREATH: 20 is LEGIBLE, 19 not", x.springs(1), 1);
    due(15, "INK fades", x.told(0, 1), 20);
    due(15, "INK does not", x.told(1, 1), 21);
    // (3) comes behind (2): a spoon can not help what was breathed on this spring.
    int seed = seedThat(0, 9);
    UnderWhitewash y = new UnderWhitewash();
    y.rule(2, 100);
    y.seed(seed);
    y.writes(0, 20, 5, 0);
    due(15, "(3) comes behind (2)", y.springs(1), 0);
    due(15, "it is DUG then", y.told(0, 2), 0);
    due(15, "the COAT of this spring is DUG, too", y.cellOf(0, 1), 0);
  }

  /** A z from which the spoon of the next spring digs that cell by so much. */
  private static int seedThat(int cell, int by) {
    for (int seed = 0; ; seed++) {
      int z = seed * 1103515245 + 12345;
      int second = z * 1103515245 + 12345, third = second * 1103515245 + 12345;
      if ((second >>> 8) % 6 == cell && (third >>> 8) % 10 == by) return seed;
    }
  }

  private static void spoons() {
    for (int seed : new int[] {0, 1, -1, 7, 1 << 30, Edges.MIN, Edges.MAX}) {
      int one = seed * 1103515245 + 12345;
      int three = (one * 1103515245 + 12345) * 1103515245 + 12345;
      int rest = (one >>> 8) % 100;
      due(15, "SPOONS 0: never", zBehind(seed, 0), one);
      due(15, "SPOONS 100: always", zBehind(seed, 100), three);
      due(15, "a rest that is just SPOONS", zBehind(seed, rest), one);
      due(15, "a rest right below SPOONS", zBehind(seed, rest + 1), three);
    }
    int last = 0;
    while (((last * 1103515245 + 12345) >>> 8) % 100 != 99) last++;
    due(15, "the rest 99 and SPOONS 99", zBehind(last, 99), last * 1103515245 + 12345);
    int first = 0;
    while (((first * 1103515245 + 12345) >>> 8) % 100 != 0) first++;
    due(15, "the rest 0 and SPOONS 0", zBehind(first, 0), first * 1103515245 + 12345);
  }

  private static int zBehind(int seed, int spoons) {
    UnderWhitewash x = new UnderWhitewash();
    x.seed(seed);
    x.rule(2, spoons);
    x.springs(1);
    return x.count(8);
  }

  private static void dugBySpoon() {
    for (int cell = 0; cell < 6; cell++) for (int by : new int[] {0, 1, 9}) {
      UnderWhitewash x = new UnderWhitewash();
      x.rule(2, 100);
      x.rule(0, 9);
      x.seed(seedThat(cell, by));
      for (int c = 0; c < 6; c++) {
        x.cell(c, 1, 100);
        x.writes(0, 0, 50, c);
      }
      x.springs(1);
      due(15, "DUG by " + by, x.walls(1), by);
      for (int c = 0; c < 6; c++) {
        int less = c == cell ? by : 0;
        due(15, "COATS", x.cellOf(c, 1), 101 - less);
        due(15, "DEPTH", x.told(c, 2), 51 - less);
        due(15, "WIDE", x.cellOf(c, 0), 60 + less / 9);
      }
    }
    UnderWhitewash x = new UnderWhitewash();
    x.rule(2, 100);
    x.seed(seedThat(5, 9));
    x.springs(1);
    due(15, "COATS not below 0", x.cellOf(5, 1), 0);
    due(15, "DUG by the one COAT that was there", x.walls(1), 1);
  }

  // ---------------------------------------------------------------- bounds that no 512 calls reach

  /*
   * SHOWN, DUG: 99999 at most. By a rough reckoning no 512 calls come that far, and what later calls answer
   * is free by the document; this class keeps the bound all the same, and here it is seen to do so.
   */
  private static void shownAtMost() {
    UnderWhitewash x = new UnderWhitewash();
    for (int k = 0; k < 10; k++) x.writes(5, 0, 0, 0);
    for (int k = 0; k < 9999; k++) x.breathe(0);
    due(13, "SHOWN", x.walls(0), 99990);
    x.writes(5, 0, 0, 0);
    x.set(9, 3, 1);
    due(13, "nine more", x.breathe(0), 9);
    due(13, "SHOWN 99999", x.walls(0), 99999);
    due(13, "how many were LEGIBLE", x.breathe(0), 9);
    due(13, "SHOWN 99999 at most", x.walls(0), 99999);
    due(15, "by how much SHOWN is more: not at all", x.springs(6), 0);
    due(17, "SHOWN behind 100", x.behind(100, 0), 99999);
    due(23, "v 99999", x.eyes(0, 99999), 99);
    due(21, "SHOWN then", x.place(9, 60, 1), 99999);
    due(22, "SHOWN then", x.becomes(9, 60, 1), 99999);
  }

  private static void dugAtMost() {
    UnderWhitewash x = new UnderWhitewash();
    for (int k = 0; k < 1010; k++) {
      if (k % 101 == 0) x.cell(0, 1, 9999);
      x.dig(0, 99);
    }
    due(14, "DUG", x.walls(1), 99990);
    x.cell(0, 1, 9999);
    due(14, "8 more", x.dig(0, 8), 8);
    due(14, "DUG 99998", x.walls(1), 99998);
    due(14, "by how much COATS are less", x.dig(0, 5), 5);
    due(14, "DUG 99999 at most", x.walls(1), 99999);
  }

  // ---------------------------------------------------------------- 16

  private static void walls() {
    Edges.outside(16, "what 0 .. 6", Edges::rich, 0, 6, (x, v) -> x.walls(v));
    for (int w = 0; w < 7; w++) {
      int what = w;
      Edges.unchanged(16, "walls changes nothing", Edges::full, Edges.full().walls(w), x -> x.walls(what));
    }
    UnderWhitewash x = new UnderWhitewash();
    for (int k = 0; k < 10; k++) x.writes(0, 99, 9999, 0);
    for (int k = 0; k < 10; k++) x.set(k, 4, 9999);
    due(16, "the most DEPTH of all", x.walls(2), 99990);
    due(16, "the most INK of all", x.walls(3), 990);
    due(16, "the most SEEN of all", x.walls(4), 99990);
    due(16, "none is LEGIBLE", x.walls(6), 0);
    x.rule(1, 0);
    due(16, "all are LEGIBLE", x.walls(6), 1023);
    x.set(0, 2, 98);
    x.set(9, 2, 0);
    x.rule(1, 1);
    due(16, "the first and the last", x.walls(6), 1 + 512);
    due(16, "all are 60 WIDE: the least", x.walls(5), 0);
    for (int c = 0; c < 6; c++) {
      x.cell(c, 0, 59);
      due(16, "one is less WIDE", x.walls(5), c);
      x.cell(c, 0, 61);
      due(16, "the others are less WIDE", x.walls(5), c == 0 ? 1 : 0);
      x.cell(c, 0, 60);
    }
    x.cell(5, 0, 59);
    due(16, "the last is least WIDE", x.walls(5), 5);
    x.cell(2, 0, 59);
    due(16, "of several the least", x.walls(5), 2);
    x.cell(4, 0, 0);
    x.cell(3, 0, 99);
    due(16, "one that is 0 WIDE", x.walls(5), 4);
    x.cell(0, 0, 0);
    due(16, "of several the least again", x.walls(5), 0);
    due(16, "7", x.walls(7), BAD);
  }
}
