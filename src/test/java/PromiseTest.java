/** Each promise of the document by hand: ordinary inputs, the edges that it names, and wrong inputs. */
public final class PromiseTest {
  private static final int BAD = -1000000001, NO = -1000000002, FULL = -1000000003, NONE = -1000000005,
      NOTHING = -1000000011, KIND = -1000000012, INDEX = -1000000013, SIZE = -1000000014;
  private static final int MIN = Integer.MIN_VALUE, MAX = Integer.MAX_VALUE;
  private static int wrong = 0;
  private static int asked = 0;

  private static void due(int promise, String what, int got, int want) {
    asked++;
    if (got != want) {
      wrong++;
      System.out.println("promise " + promise + ": " + what + " answered " + got + ", due is " + want);
    }
  }

  public static void main(String[] args) {
    newObject(); writes(); told(); shows(); as(); turns(); set(); cell(); cellOf(); rule(); deal(); seed(); fewest();
    breathe(); dig(); springs(); springsByChance(); walls();
    behind(); lost(); solid(); spoon(); place(); becomes(); eyes(); like(); fee(); fine();
    feed(); trim(); text(); faults(); values(); textTold(); why();
    sheet(); mark(); pour(); reads(); copy(); lay(); ask(); item(); rest();
    tell(); check(); keepAndBack(); imageAndTexts(); count();
    System.out.println(asked + " answers asked, " + wrong + " not as due");
    if (wrong != 0) System.exit(1);
  }

  // ---------------------------------------------------------------- helpers

  /** The text on an empty tape, and what text() answers. */
  private static int say(UnderWhitewash x, String s) {
    put(x, s);
    return x.text();
  }

  private static void put(UnderWhitewash x, String s) {
    x.trim(0);
    for (int k = 0; k < s.length(); k += 12) {
      int[] v = new int[3];
      for (int j = 0; j < 12; j++) v[j / 4] = v[j / 4] << 8 | (k + j < s.length() ? s.charAt(k + j) & 255 : 0);
      x.feed(v[0], v[1], v[2]);
    }
    x.trim(s.length());
  }

  private static void times(UnderWhitewash x, int springs) {
    for (int left = springs; left > 0; left -= 100) x.springs(Math.min(100, left));
  }

  // ---------------------------------------------------------------- marks, cells

  private static void newObject() {
    UnderWhitewash x = new UnderWhitewash();
    int[] counts = {0, 0, 3, 20, 0, 0, 0, 0, 1};
    for (int k = 0; k < 9; k++) due(1, "count " + k, x.count(k), counts[k]);
    for (int k = 0; k < 7; k++) due(1, "walls " + k, x.walls(k), 0);
    for (int c = 0; c < 6; c++) {
      due(1, "wide", x.cellOf(c, 0), 60);
      due(1, "coats", x.cellOf(c, 1), 0);
    }
    for (int s = 0; s < 4; s++) due(1, "missing", x.reads(s), NOTHING);
    for (int s = 0; s < 5; s++) due(1, "slot", x.rest(s, 1), NOTHING);
    for (int k = 0; k < 3; k++) due(1, "why", x.why(k), NONE);
    due(1, "back", x.back(), NO);
    due(1, "told(0, 0)", x.told(0, 0), BAD);
  }

  private static void writes() {
    UnderWhitewash x = new UnderWhitewash();
    int[][] bad = {{-1, 0, 0, 0}, {6, 0, 0, 0}, {0, -1, 0, 0}, {0, 100, 0, 0}, {0, 0, -1, 0}, {0, 0, 10000, 0}, {0, 0, 0, -1},
        {0, 0, 0, 6}, {MIN, 0, 0, 0}, {MAX, 0, 0, 0}, {0, 0, 0, MAX}};
    for (int[] b : bad) due(2, "writes bad", x.writes(b[0], b[1], b[2], b[3]), BAD);
    due(2, "none came", x.count(0), 0);
    due(2, "least", x.writes(0, 0, 0, 0), 0);
    due(2, "most", x.writes(5, 99, 9999, 5), 1);
    due(2, "its kind", x.told(1, 0), 5);
    due(2, "its ink", x.told(1, 1), 99);
    due(2, "its depth", x.told(1, 2), 9999);
    due(2, "its cell", x.told(1, 3), 5);
    due(2, "its seen", x.told(1, 4), 0);
    for (int k = 2; k < 10; k++) due(2, "writes", x.writes(1, 1, 1, 1), k);
    due(2, "the eleventh", x.writes(1, 1, 1, 1), FULL);
    due(2, "bad stands ahead of full", x.writes(6, 1, 1, 1), BAD);
    due(2, "ten", x.count(0), 10);
  }

  private static void told() {
    UnderWhitewash x = new UnderWhitewash();
    int[][] rows = {
        {0, 50, 10, 0, 7, 40, 1, 1, 50}, {1, 50, 10, 0, 7, 45, 1, 1, 57}, {2, 50, 10, 0, 7, 50, 1, 0, 49},
        {3, 50, 10, 0, 8, 22, 2, 3, 29}, {4, 50, 10, 0, 7, 40, 2, 3, 56}, {5, 50, 10, 0, 7, 20, 0, 5, 7}};
    for (int k = 0; k < 6; k++) {
      x.writes(k, 50, 10, 0);
      x.set(k, 4, rows[k][4]);
    }
    for (int k = 0; k < 6; k++) for (int w = 0; w < 9; w++) due(3, "told(" + k + ", " + w + ")", x.told(k, w), rows[k][w]);
    due(3, "what -1", x.told(0, -1), BAD);
    due(3, "what 9", x.told(0, 9), BAD);
    due(3, "mark -1", x.told(-1, 0), BAD);
    due(3, "mark 6", x.told(6, 0), BAD);
    x.cell(0, 0, 30);
    due(3, "a ship where it is 30 wide", x.told(2, 6), 1);
    x.cell(0, 0, 29);
    due(3, "a ship where it is 29 wide", x.told(2, 6), 2);
    due(3, "a verse where it is 29 wide", x.told(4, 6), 3);
    due(3, "a tally where it is 29 wide", x.told(3, 6), 2);
  }

  private static void shows() {
    UnderWhitewash x = new UnderWhitewash();
    x.writes(0, 10, 50, 0);
    x.writes(0, 99, 0, 1);
    x.writes(1, 97, 0, 1);
    x.writes(2, 98, 0, 1);
    x.writes(3, 99, 0, 1);
    x.writes(4, 1, 0, 1);
    x.writes(4, 99, 0, 1);
    x.writes(5, 0, 9999, 1);
    int[] want = {0, 99, 99, 99, 49, 3, 89, 20};
    for (int k = 0; k < 8; k++) due(3, "shows " + k, x.told(k, 5), want[k]);
    x.set(0, 3, 1);
    due(3, "one more in the cell", x.told(5, 5), 5);
    x.set(5, 3, 2);
    due(3, "a verse alone shows 0 at least", x.told(5, 5), 0);
    x.set(0, 1, 4);
    x.set(0, 2, 4);
    x.turns(0, 3);
    due(3, "half of 5, cut", x.told(0, 5), 2);
  }

  private static void as() {
    UnderWhitewash x = new UnderWhitewash();
    for (int k = 0; k < 6; k++) x.writes(k, 10 + k, 0, 0);
    int[] under = {0b000001, 0b000011, 0b000101, 0b001011, 0b010101, 0b100001};
    for (int m = 0; m < 6; m++) for (int k = 0; k < 6; k++)
      due(4, "as(" + m + ", " + k + ")", x.as(m, k), (under[m] >> k & 1) == 1 ? 10 + m : KIND);
    due(4, "kind 6", x.as(0, 6), BAD);
    due(4, "kind -1", x.as(0, -1), BAD);
    due(4, "mark 6", x.as(6, 0), BAD);
    due(4, "mark -1", x.as(-1, 0), BAD);
  }

  private static void turns() {
    UnderWhitewash x = new UnderWhitewash();
    x.writes(2, 70, 5, 3);
    x.set(0, 4, 9);
    due(5, "turns", x.turns(0, 5), 2);
    due(5, "turns again", x.turns(0, 1), 5);
    int[] want = {1, 70, 5, 3, 9, 70, 1, 1, 79};
    for (int w = 0; w < 9; w++) due(5, "told " + w, x.told(0, w), want[w]);
    due(5, "kind 6", x.turns(0, 6), BAD);
    due(5, "kind -1", x.turns(0, -1), BAD);
    due(5, "mark 1", x.turns(1, 0), BAD);
    due(5, "mark -1", x.turns(-1, 0), BAD);
    due(5, "as it was", x.told(0, 0), 1);
  }

  private static void set() {
    UnderWhitewash x = new UnderWhitewash();
    x.writes(0, 70, 5, 3);
    int[] was = {70, 5, 3, 0}, most = {99, 9999, 5, 9999};
    for (int w = 1; w <= 4; w++) {
      due(6, "above " + w, x.set(0, w, most[w - 1] + 1), BAD);
      due(6, "below " + w, x.set(0, w, -1), BAD);
      due(6, "most " + w, x.set(0, w, most[w - 1]), was[w - 1]);
      due(6, "least " + w, x.set(0, w, 0), most[w - 1]);
      due(6, "told " + w, x.told(0, w), 0);
    }
    due(6, "what 0", x.set(0, 0, 0), BAD);
    due(6, "what 5", x.set(0, 5, 0), BAD);
    due(6, "mark 1", x.set(1, 1, 0), BAD);
    due(6, "mark -1", x.set(-1, 1, 0), BAD);
    due(6, "the old cell is empty", x.cellOf(3, 2), 0);
    due(6, "the new one is not", x.cellOf(0, 2), 1);
  }

  private static void cell() {
    UnderWhitewash x = new UnderWhitewash();
    due(7, "wide", x.cell(5, 0, 99), 60);
    due(7, "wide again", x.cell(5, 0, 0), 99);
    due(7, "wide 100", x.cell(5, 0, 100), BAD);
    due(7, "wide -1", x.cell(5, 0, -1), BAD);
    due(7, "coats", x.cell(5, 1, 9999), 0);
    due(7, "coats 10000", x.cell(5, 1, 10000), BAD);
    due(7, "coats -1", x.cell(5, 1, -1), BAD);
    due(7, "what 2", x.cell(5, 2, 0), BAD);
    due(7, "what -1", x.cell(5, -1, 0), BAD);
    due(7, "cell 6", x.cell(6, 0, 0), BAD);
    due(7, "cell -1", x.cell(-1, 0, 0), BAD);
    due(7, "wide is", x.cellOf(5, 0), 0);
    due(7, "coats are", x.cellOf(5, 1), 9999);
  }

  private static void cellOf() {
    UnderWhitewash x = new UnderWhitewash();
    x.writes(0, 50, 10, 4);
    x.writes(2, 50, 10, 3);
    x.writes(2, 50, 10, 4);
    due(8, "set", x.cellOf(4, 2), 5);
    due(8, "shows", x.cellOf(4, 3), 40 + 42);
    due(8, "set of 3", x.cellOf(3, 2), 2);
    due(8, "shows of 3", x.cellOf(3, 3), 40);
    due(8, "empty", x.cellOf(0, 2), 0);
    due(8, "what 4", x.cellOf(4, 4), BAD);
    due(8, "what -1", x.cellOf(4, -1), BAD);
    due(8, "cell 6", x.cellOf(6, 0), BAD);
    due(8, "cell -1", x.cellOf(-1, 0), BAD);
  }

  private static void rule() {
    UnderWhitewash x = new UnderWhitewash();
    int[] was = {3, 20, 0}, least = {1, 0, 0}, most = {9, 99, 100};
    for (int w = 0; w < 3; w++) {
      due(9, "below " + w, x.rule(w, least[w] - 1), BAD);
      due(9, "above " + w, x.rule(w, most[w] + 1), BAD);
      due(9, "most " + w, x.rule(w, most[w]), was[w]);
      due(9, "least " + w, x.rule(w, least[w]), most[w]);
      due(9, "count " + w, x.count(2 + w), least[w]);
    }
    due(9, "what 3", x.rule(3, 1), BAD);
    due(9, "what -1", x.rule(-1, 1), BAD);
    due(9, "what most", x.rule(MAX, 1), BAD);
  }

  private static void deal() {
    UnderWhitewash x = new UnderWhitewash();
    due(10, "0", x.deal(0), BAD);
    due(10, "11", x.deal(11), BAD);
    due(10, "-1", x.deal(-1), BAD);
    due(10, "z as it was", x.count(8), 1);
    x.seed(-77);
    int z = -77;
    due(10, "three", x.deal(3), 3);
    for (int m = 0; m < 3; m++) for (int w = 0; w < 4; w++) {
      z = z * 1103515245 + 12345;
      int draw = z >>> 8;
      due(10, "drawn " + m + " " + w, x.told(m, w), w == 0 ? draw % 6 : w == 1 ? draw % 70 + 30 : w == 2 ? draw % 40 : draw % 6);
    }
    due(10, "z then", x.count(8), z);
    due(10, "as many as there is room for", x.deal(10), 7);
    int after = x.count(8);
    due(10, "no room", x.deal(1), 0);
    due(10, "no draws for others", x.count(8), after);
    for (int k = 0; k < 28; k++) z = z * 1103515245 + 12345;
    due(10, "28 draws for 7", after, z);
  }

  private static void seed() {
    UnderWhitewash x = new UnderWhitewash();
    due(11, "first", x.seed(MIN), 1);
    due(11, "second", x.seed(0), MIN);
    due(11, "told", x.count(8), 0);
  }

  private static void fewest() {
    UnderWhitewash x = new UnderWhitewash();
    due(12, "of none, for 0", x.fewest(0, 0), 0);
    due(12, "of none, for 1", x.fewest(1, 1), NONE);
    int[] inks = {10, 40, 30, 40, 60, 99};
    for (int k = 0; k < 6; k++) x.writes(0, inks[k], 0, k);
    due(12, "for 0", x.fewest(0, 0), 0);
    due(12, "for 0, how many", x.fewest(0, 1), 0);
    due(12, "for 40: the least of the sets of one", x.fewest(40, 0), 2);
    due(12, "for 99", x.fewest(99, 0), 32);
    due(12, "for 100: marks 1 and 4", x.fewest(100, 0), 2 | 16);
    due(12, "for 100, how many", x.fewest(100, 1), 2);
    due(12, "for 139: marks 1 and 5", x.fewest(139, 0), 2 | 32);
    due(12, "for 140: marks 4 and 5", x.fewest(140, 0), 16 | 32);
    due(12, "for 279: all", x.fewest(279, 0), 63);
    due(12, "for 279, how many", x.fewest(279, 1), 6);
    due(12, "for 280", x.fewest(280, 0), NONE);
    due(12, "for 280, how many", x.fewest(280, 1), NONE);
    due(12, "-1", x.fewest(-1, 0), BAD);
    due(12, "1000", x.fewest(1000, 0), BAD);
    due(12, "what 2", x.fewest(0, 2), BAD);
    due(12, "what -1", x.fewest(0, -1), BAD);
    for (int k = 6; k < 10; k++) x.writes(0, 99, 0, 0);
    for (int k = 0; k < 10; k++) x.set(k, 1, 99);
    due(12, "for 990: all ten", x.fewest(990, 0), 1023);
    due(12, "for 991", x.fewest(991, 0), NONE);
  }

  // ---------------------------------------------------------------- springs

  private static void breathe() {
    UnderWhitewash x = new UnderWhitewash();
    for (int k = 0; k < 6; k++) x.writes(k, 60, 0, 2);
    x.writes(0, 60, 0, 1);
    x.writes(0, 20, 0, 2);
    x.writes(0, 19, 0, 2);
    due(13, "cell 6", x.breathe(6), BAD);
    due(13, "cell -1", x.breathe(-1), BAD);
    due(13, "how many", x.breathe(2), 7);
    int[] ink = {59, 59, 60, 57, 57, 55, 60, 19, 19};
    int[] seen = {1, 1, 1, 1, 1, 1, 0, 1, 0};
    for (int k = 0; k < 9; k++) {
      due(13, "ink " + k, x.told(k, 1), ink[k]);
      due(13, "seen " + k, x.told(k, 4), seen[k]);
    }
    due(13, "shown", x.walls(0), 7);
    x.set(5, 1, 3);
    x.set(5, 4, 9999);
    due(13, "again: mark 7 is not legible any more", x.breathe(2), 6);
    due(13, "ink is 0 at least", x.told(5, 1), 0);
    due(13, "seen is 9999 at most", x.told(5, 4), 9999);
    due(13, "an empty cell", x.breathe(0), 0);
    due(13, "shown then", x.walls(0), 13);
    due(13, "no coat", x.cellOf(2, 1), 0);
  }

  private static void dig() {
    UnderWhitewash x = new UnderWhitewash();
    x.writes(0, 50, 30, 0);
    x.writes(0, 50, 3, 0);
    x.writes(0, 50, 30, 1);
    x.cell(0, 1, 20);
    due(14, "-1", x.dig(0, -1), BAD);
    due(14, "100", x.dig(0, 100), BAD);
    due(14, "cell 6", x.dig(6, 1), BAD);
    due(14, "cell -1", x.dig(-1, 1), BAD);
    due(14, "by 0", x.dig(0, 0), 0);
    due(14, "by 8", x.dig(0, 8), 8);
    due(14, "wide by 8 / 3", x.cellOf(0, 0), 62);
    due(14, "coats", x.cellOf(0, 1), 12);
    due(14, "depth", x.told(0, 2), 22);
    due(14, "depth 0 at least", x.told(1, 2), 0);
    due(14, "another cell", x.told(2, 2), 30);
    due(14, "by more than there is", x.dig(0, 99), 12);
    due(14, "dug", x.walls(1), 20);
    due(14, "wide by all of n / 3", x.cellOf(0, 0), 95);
    due(14, "by 99", x.dig(0, 99), 0);
    due(14, "wide 99 at most", x.cellOf(0, 0), 99);
    due(14, "dug as it was", x.walls(1), 20);
    x.rule(0, 1);
    x.dig(1, 7);
    due(14, "wide by 7 / 1", x.cellOf(1, 0), 67);
    x.rule(0, 9);
    x.dig(2, 8);
    due(14, "wide by 8 / 9", x.cellOf(2, 0), 60);
  }

  private static void springs() {
    UnderWhitewash x = new UnderWhitewash();
    due(15, "0", x.springs(0), BAD);
    due(15, "101", x.springs(101), BAD);
    due(15, "-1", x.springs(-1), BAD);
    for (int k = 0; k < 6; k++) x.writes(k, 60, 5, 0);
    x.writes(2, 21, 0, 1);
    x.cell(0, 0, 30);
    x.cell(0, 1, 2);
    due(15, "one: all six in cell 0", x.springs(1), 6);
    int[] depth = {6, 6, 6, 7, 7, 5, 1};
    int[] ink = {59, 59, 60, 57, 57, 55, 21};
    for (int k = 0; k < 7; k++) {
      due(15, "depth " + k, x.told(k, 2), depth[k]);
      due(15, "ink " + k, x.told(k, 1), ink[k]);
    }
    due(15, "the third coat narrows cell 0", x.cellOf(0, 0), 29);
    due(15, "its coats", x.cellOf(0, 1), 3);
    due(15, "the first coat narrows none", x.cellOf(1, 0), 60);
    due(15, "z: one draw", x.count(8), 1103527590);
    due(15, "two: the coat comes ahead of the breath, mark 6 shows 19", x.springs(1), 0);
    int[] next = {7, 7, 8, 9, 10, 5, 2};
    for (int k = 0; k < 7; k++) due(15, "depth then " + k, x.told(k, 2), next[k]);
    due(15, "the spring", x.count(1), 2);
    due(15, "cells 2 .. 5 are empty", x.springs(4), 0);
    due(15, "the seventh is on cell 0 again", x.springs(1), 6);
    bounds();
  }

  private static void bounds() {
    UnderWhitewash x = new UnderWhitewash();
    x.writes(3, 90, 9998, 4);
    x.cell(4, 1, 9998);
    x.cell(4, 0, 2);
    x.springs(1);
    due(15, "depth 9999 at most", x.told(0, 2), 9999);
    due(15, "coats 9999", x.cellOf(4, 1), 9999);
    due(15, "3 divides 9999", x.cellOf(4, 0), 1);
    x.springs(1);
    due(15, "coats 9999 at most", x.cellOf(4, 1), 9999);
    due(15, "and 3 divides them again", x.cellOf(4, 0), 0);
    x.springs(1);
    due(15, "wide 0 at least", x.cellOf(4, 0), 0);
    x.writes(5, 0, 0, 0);
    x.rule(1, 0);
    times(x, 9996 - 3);
    due(15, "the spring", x.count(1), 9996);
    due(15, "three more: cell 0, 1, 2", x.springs(100), 1);
    due(15, "9999 at most", x.count(1), 9999);
    due(15, "none any more", x.springs(1), 0);
    due(15, "still 9999", x.count(1), 9999);
  }

  private static int draw(int[] z) {
    z[0] = z[0] * 1103515245 + 12345;
    return z[0] >>> 8;
  }

  private static void springsByChance() {
    UnderWhitewash x = new UnderWhitewash();
    x.rule(2, 50);
    for (int c = 0; c < 6; c++) x.cell(c, 1, 500);
    int[] z = {1};
    int[] coats = {500, 500, 500, 500, 500, 500};
    int dug = 0, digs = 0;
    for (int k = 0; k < 40; k++) {
      x.springs(1);
      for (int c = 0; c < 6; c++) coats[c]++;
      if (draw(z) % 100 < 50) {
        int c = draw(z) % 6, n = draw(z) % 10;
        coats[c] -= n;
        dug += n;
        digs++;
      }
      due(15, "z", x.count(8), z[0]);
      due(15, "dug", x.walls(1), dug);
      for (int c = 0; c < 6; c++) due(15, "coats", x.cellOf(c, 1), coats[c]);
    }
    due(15, "some dug, some not", digs > 5 && digs < 35 ? 1 : 0, 1);
    x.rule(2, 100);
    x.springs(1);
    draw(z); draw(z); draw(z);
    due(15, "always with 100", x.count(8), z[0]);
    int before = z[0];
    int rest = draw(z) % 100;
    int one = z[0];
    draw(z); draw(z);
    x.rule(2, rest);
    x.springs(1);
    due(15, "its rest is not below itself", x.count(8), one);
    x.seed(before);
    x.rule(2, rest + 1);
    x.springs(1);
    due(15, "but below one more", x.count(8), z[0]);
  }

  private static void walls() {
    UnderWhitewash x = new UnderWhitewash();
    x.writes(0, 30, 10, 1);
    x.writes(0, 30, 11, 1);
    x.writes(5, 9, 100, 2);
    x.cell(3, 1, 50);
    x.dig(3, 4);
    x.breathe(1);
    x.cell(4, 0, 59);
    x.cell(3, 0, 59);
    int[] want = {1, 4, 121, 29 + 30 + 9, 1, 3, 4};
    for (int k = 0; k < 7; k++) due(16, "walls " + k, x.walls(k), want[k]);
    x.cell(1, 0, 58);
    due(16, "narrowest", x.walls(5), 1);
    due(16, "7", x.walls(7), BAD);
    due(16, "-1", x.walls(-1), BAD);
    x.rule(1, 19);
    due(16, "legible with 19", x.walls(6), 7);
    x.rule(1, 0);
    x.set(0, 2, 9999);
    due(16, "legible with 0", x.walls(6), 7);
  }

  // ---------------------------------------------------------------- what will be

  private static void behind() {
    UnderWhitewash x = new UnderWhitewash();
    x.deal(10);
    x.rule(2, 70);
    due(17, "n -1", x.behind(-1, 0), BAD);
    due(17, "n 101", x.behind(101, 0), BAD);
    due(17, "what -1", x.behind(1, -1), BAD);
    due(17, "what 15", x.behind(1, 15), BAD);
    due(17, "what most", x.behind(1, MAX), BAD);
    for (int w = 0; w < 5; w++) due(17, "behind 0", x.behind(0, w), x.walls(w));
    int[] told = new int[15];
    for (int w = 0; w < 15; w++) told[w] = x.behind(100, w);
    int z = x.count(8);
    due(17, "nothing changed", x.count(1), 0);
    x.springs(100);
    for (int w = 0; w < 15; w++) due(17, "behind 100, " + w, told[w], w < 5 ? x.walls(w) : x.told(w - 5, 2));
    due(17, "z goes on from where it was", x.count(8) == z ? 1 : 0, 0);
    beyond();
  }

  private static void beyond() {
    UnderWhitewash x = new UnderWhitewash();
    times(x, 9999);
    x.writes(0, 60, 5, 0);
    due(17, "5 and 1 of no mark", x.behind(1, 6), BAD);
    due(17, "without the bound of the spring", x.behind(10, 5), 15);
    // The rest of 9999 by 6 is 3: the fourth and the tenth of them are on cell 0.
    due(17, "shown behind 10", x.behind(10, 0), 2);
    due(17, "shown behind 3", x.behind(3, 0), 0);
    due(18, "lost beyond the bound: it sinks 31 and fades 5", x.lost(0), 31);
    due(17, "as it was", x.told(0, 2), 5);
  }

  private static void lost() {
    UnderWhitewash x = new UnderWhitewash();
    x.writes(0, 50, 10, 3);
    x.writes(5, 50, 10, 3);
    x.writes(0, 19, 0, 3);
    x.writes(2, 40, 10, 3);
    due(18, "a leant one with eyes 20", x.lost(1), NONE);
    due(18, "now", x.lost(2), 0);
    // Mark 0 shows 40 and sinks 1 a spring; breaths on cell 3 in springs 4, 10, 16 each take 1 of it.
    due(18, "a mark", x.lost(0), 18);
    // A ship with three others shows 36 and does not fade.
    due(18, "a ship counts the others", x.lost(3), 17);
    x.rule(1, 0);
    due(18, "with eyes 0", x.lost(0), NONE);
    x.rule(1, 21);
    due(18, "a leant one with eyes 21", x.lost(1), 0);
    due(18, "mark 4", x.lost(4), BAD);
    due(18, "mark -1", x.lost(-1), BAD);
    due(18, "nothing changed", x.told(0, 2), 10);
    UnderWhitewash y = new UnderWhitewash();
    y.writes(0, 90, 0, 2);
    y.writes(2, 40, 10, 0);
    y.writes(0, 40, 10, 1);
    y.cell(0, 0, 20);
    // The ship sinks 2 a spring in its own narrow cell; the mark is seen in springs 2 and 8 and 14.
    due(18, "a ship in a narrow cell", y.lost(1), 6);
    due(18, "a mark of another cell", y.lost(2), 9);
    x.rule(1, 1);
    say(x, "breath 200 - d");
    x.set(0, 2, 0);
    due(18, "behind 200", x.lost(0), 200);
    x.set(0, 2, 1);
    due(18, "behind 199", x.lost(0), 199);
    say(x, "breath 201 - d");
    x.set(0, 2, 0);
    due(18, "behind 201 is not by then", x.lost(0), NONE);
  }

  private static void solid() {
    UnderWhitewash x = new UnderWhitewash();
    due(19, "60 wide by 3", x.solid(5), 180);
    x.cell(5, 0, 0);
    due(19, "now", x.solid(5), 0);
    x.cell(4, 0, 66);
    x.cell(4, 1, 1);
    due(19, "198 less 1", x.solid(4), 197);
    x.cell(4, 0, 67);
    due(19, "200", x.solid(4), 200);
    x.cell(4, 1, 0);
    due(19, "201", x.solid(4), NONE);
    due(19, "cell 6", x.solid(6), BAD);
    due(19, "cell -1", x.solid(-1), BAD);
    x.rule(0, 1);
    due(19, "by 1", x.solid(4), 67);
    due(19, "nothing changed", x.cellOf(4, 0), 67);
  }

  private static void spoon() {
    UnderWhitewash x = new UnderWhitewash();
    x.writes(0, 50, 40, 3);
    x.writes(5, 50, 40, 3);
    x.writes(2, 20, 99, 3);
    x.writes(0, 20, 100, 3);
    due(20, "it shows 10 now", x.spoon(0, 0), 10);
    due(20, "behind 3 springs", x.spoon(0, 3), 13);
    // Behind 4 springs it is 44 deep; dug by 14 or more it has been seen once and has ink 49: 49 - 44 + n >= 20.
    due(20, "it fades where it is seen", x.spoon(0, 4), 15);
    due(20, "a leant one", x.spoon(1, 60), 0);
    due(20, "a ship with three others: 20 - 93 + 6 are too few, 20 - 0 + 6 are enough", x.spoon(2, 0), 93);
    due(20, "not even by 99", x.spoon(3, 0), NONE);
    x.set(3, 2, 99);
    due(20, "by 99", x.spoon(3, 0), 99);
    due(20, "behind one spring not", x.spoon(3, 1), NONE);
    due(20, "n -1", x.spoon(0, -1), BAD);
    due(20, "n 61", x.spoon(0, 61), BAD);
    due(20, "mark 4", x.spoon(4, 0), BAD);
    due(20, "mark -1", x.spoon(-1, 0), BAD);
    due(20, "nothing changed", x.told(0, 2), 40);
    due(20, "nothing dug", x.walls(1), 0);
    UnderWhitewash y = new UnderWhitewash();
    y.writes(0, 50, 40, 3);
    say(y, "breath c");
    y.cell(3, 1, 60);
    due(20, "the least of those that do, not the nearest", y.spoon(0, 0), 0);
    say(y, "breath (d < 10) * 99");
    due(20, "by 31 it is 9 deep", y.spoon(0, 0), 31);
  }

  private static void place() {
    UnderWhitewash x = new UnderWhitewash();
    x.writes(0, 25, 0, 5);
    // It shows 25 - k behind k springs: seen in springs 1 .. 5 by cells 0 .. 4, and behind 6 springs there are more.
    due(21, "one spring: cell 0", x.place(0, 1, 0), 0);
    due(21, "shown then", x.place(0, 1, 1), 1);
    due(21, "five springs: the least of several", x.place(0, 5, 0), 0);
    x.springs(1);
    due(21, "the spring is 1: cell 1 is next", x.place(0, 1, 0), 1);
    due(21, "shown", x.place(0, 3, 1), 1);
    due(21, "as it was", x.told(0, 3), 5);
    x.set(0, 1, 0);
    due(21, "never shown: the least", x.place(0, 60, 0), 0);
    due(21, "never shown: 0", x.place(0, 60, 1), 0);
    due(21, "n 0", x.place(0, 0, 0), BAD);
    due(21, "n 61", x.place(0, 61, 0), BAD);
    due(21, "what 2", x.place(0, 1, 2), BAD);
    due(21, "what -1", x.place(0, 1, -1), BAD);
    due(21, "mark 1", x.place(1, 1, 0), BAD);
    due(21, "mark -1", x.place(-1, 1, 0), BAD);
    UnderWhitewash y = new UnderWhitewash();
    y.writes(2, 20, 0, 3);
    y.writes(0, 0, 0, 0);
    // The ship of cell 3 shows 16 behind 4 springs, and 18 with one more in its cell.
    y.rule(1, 18);
    due(21, "where it helps another one", y.place(1, 5, 0), 3);
    due(21, "shown by that", y.place(1, 5, 1), 1);
  }

  private static void becomes() {
    UnderWhitewash x = new UnderWhitewash();
    x.writes(0, 40, 25, 0);
    due(22, "a mark shows 14, a scratch 19, a leant one 20", x.becomes(0, 1, 0), 5);
    due(22, "shown then", x.becomes(0, 1, 1), 1);
    x.set(0, 2, 24);
    due(22, "a scratch shows 20", x.becomes(0, 1, 0), 1);
    x.set(0, 2, 0);
    due(22, "a mark does", x.becomes(0, 1, 0), 0);
    x.rule(1, 99);
    due(22, "none is shown", x.becomes(0, 60, 0), 0);
    due(22, "none", x.becomes(0, 60, 1), 0);
    due(22, "as it was", x.told(0, 0), 0);
    due(22, "n 0", x.becomes(0, 0, 0), BAD);
    due(22, "n 61", x.becomes(0, 61, 0), BAD);
    due(22, "what 2", x.becomes(0, 1, 2), BAD);
    due(22, "what -1", x.becomes(0, 1, -1), BAD);
    due(22, "mark 1", x.becomes(1, 1, 0), BAD);
    due(22, "mark -1", x.becomes(-1, 1, 0), BAD);
  }

  private static void eyes() {
    UnderWhitewash x = new UnderWhitewash();
    x.writes(0, 50, 9, 0);
    x.writes(0, 70, 9, 1);
    x.writes(5, 70, 9, 0);
    due(23, "0 are shown by any", x.eyes(60, 0), 99);
    due(23, "none in no spring", x.eyes(0, 1), NONE);
    due(23, "one in one spring: 50 - 10", x.eyes(1, 1), 40);
    due(23, "two in one spring", x.eyes(1, 2), 20);
    due(23, "three in one spring", x.eyes(1, 3), NONE);
    due(23, "one in two springs: 70 - 11", x.eyes(2, 1), 59);
    due(23, "two in two springs", x.eyes(2, 2), 40);
    due(23, "three in two springs", x.eyes(2, 3), 20);
    due(23, "four in two springs", x.eyes(2, 4), NONE);
    due(23, "n -1", x.eyes(-1, 0), BAD);
    due(23, "n 61", x.eyes(61, 0), BAD);
    due(23, "v -1", x.eyes(0, -1), BAD);
    due(23, "v 100000", x.eyes(0, 100000), BAD);
    due(23, "v 99999", x.eyes(0, 99999), NONE);
    due(23, "as they were", x.count(3), 20);
    x.breathe(0);
    due(23, "two are shown already", x.eyes(0, 2), 99);
    due(23, "not three", x.eyes(0, 3), NONE);
    UnderWhitewash y = new UnderWhitewash();
    y.writes(0, 0, 9999, 0);
    due(23, "one that shows 0 is legible with eyes 0", y.eyes(1, 1), 0);
  }

  private static void like() {
    UnderWhitewash x = new UnderWhitewash();
    due(24, "sheet 4", x.like(4, 0), BAD);
    due(24, "sheet -1", x.like(-1, 0), BAD);
    due(24, "what 2", x.like(0, 2), BAD);
    due(24, "what -1", x.like(0, -1), BAD);
    due(24, "missing", x.like(0, 0), NOTHING);
    x.sheet(0, 0, 3);
    due(24, "no marks", x.like(0, 0), NONE);
    x.writes(0, 1, 10, 0);
    x.writes(3, 1, 9, 0);
    x.writes(5, 1, 11, 0);
    int[] row = {10, 11, 13};
    for (int k = 0; k < 3; k++) x.mark(0, k, row[k]);
    // mark 0: 10 11 12; mark 1: 9 11 13; mark 2: 11 11 11
    due(24, "of several the least", x.like(0, 0), 0);
    due(24, "differences", x.like(0, 1), 1);
    x.mark(0, 0, 9);
    due(24, "a tally", x.like(0, 0), 1);
    due(24, "no difference", x.like(0, 1), 0);
    x.sheet(1, 1, 3);
    x.mark(1, 0, NONE);
    x.mark(1, 1, NONE);
    x.mark(1, 2, -5);
    due(24, "numbers alone", x.like(1, 0), 2);
    due(24, "signs left out", x.like(1, 1), 16);
    x.sheet(2, 1, 0);
    due(24, "no places: the least", x.like(2, 0), 0);
    due(24, "no places: no differences", x.like(2, 1), 0);
    due(24, "nothing changed", x.told(0, 2), 10);
    x.sheet(3, 0, 24);
    due(24, "24 places: mark 2 is 11 in each", x.like(3, 1), 24 * 11);
  }

  private static void fee() {
    UnderWhitewash x = new UnderWhitewash();
    x.writes(5, 9, 0, 0);
    x.cell(1, 1, 9);
    x.breathe(0);
    x.dig(1, 4);
    due(25, "without a text", x.fee(), 1);
    say(x, "fee 100*s+g");
    due(25, "by a text", x.fee(), 104);
    say(x, "fine 7");
    say(x, "fee g-9");
    due(25, "by the last one", x.fee(), -5);
    say(x, "fee s+");
    due(25, "no text came", x.fee(), -5);
  }

  private static void fine() {
    UnderWhitewash x = new UnderWhitewash();
    x.writes(5, 9, 4, 0);
    x.writes(0, 70, 30, 0);
    due(26, "without a text", x.fine(1), 70);
    say(x, "fine i*1000+d");
    due(26, "by a text", x.fine(1), 70030);
    due(26, "of another", x.fine(0), 9004);
    due(26, "mark 2", x.fine(2), BAD);
    due(26, "mark -1", x.fine(-1), BAD);
  }

  // ---------------------------------------------------------------- texts

  private static void feed() {
    UnderWhitewash x = new UnderWhitewash();
    for (int k = 1; k <= 8; k++) due(27, "feed", x.feed(-1, 0, MIN), 12 * k);
    due(27, "more than 96", x.feed(0, 0, 0), FULL);
    due(27, "still 96", x.count(7), 96);
    x.trim(85);
    due(27, "85 and 12", x.feed(0, 0, 0), FULL);
    x.trim(84);
    due(27, "84 and 12", x.feed(0, 0, 0), 96);
    x.trim(0);
    due(27, "the highest byte first", x.feed(0x66656520, 0x34322020, 0x20202020), 12);
    due(27, "it reads 'fee 42'", x.text(), 0);
    due(27, "42", x.fee(), 42);
  }

  private static void trim() {
    UnderWhitewash x = new UnderWhitewash();
    due(28, "nothing to keep", x.trim(0), 0);
    due(28, "more than there is", x.trim(1), BAD);
    x.feed(0, 0, 0);
    due(28, "-1", x.trim(-1), BAD);
    due(28, "13", x.trim(13), BAD);
    due(28, "12", x.trim(12), 12);
    due(28, "5", x.trim(5), 5);
    due(28, "6", x.trim(6), BAD);
    due(28, "bytes", x.count(7), 5);
  }

  private static void text() {
    UnderWhitewash x = new UnderWhitewash();
    due(29, "an empty tape", x.text(), -100);
    for (int k = 0; k < 14; k++) due(29, "text", say(x, "fee " + k), k);
    due(29, "the last counts", x.fee(), 13);
    due(29, "the fifteenth", say(x, "fee 99"), FULL);
    due(29, "uses the tape up", x.count(7), 0);
    due(29, "a fault stands ahead of full", say(x, "fee x"), -104);
    due(29, "uses the tape up, too", x.count(7), 0);
    due(29, "14", x.count(5), 14);
    due(29, "as it was", x.fee(), 13);
  }

  private static void fault(String s, int place) {
    due(29, "the fault of '" + s + "'", say(new UnderWhitewash(), s), place < 0 ? 0 : -100 - place);
  }

  private static void faults() {
    fault("   ", 3);
    fault("fee", 3);
    fault("fee  ", 5);
    fault(" fee 1 ", -1);
    fault("feee 1", 0);
    fault("feez 1", 0);
    fault("feea 1", 0);
    fault("ree 1", 0);
    fault("fle 1", 0);
    fault("fi 1", 0);
    fault(" breat i", 1);
    fault("1 fee", 0);
    fault("fee1", 3);
    fault("fee(1)", -1);
    fault("fee!1", -1);
    fault("fee i", 4);
    fault("fine s", 5);
    fault("fine c", 5);
    fault("breath g", 7);
    fault("breath i d c n", 9);
    fault("fine id", 5);
    fault("fee 1234", -1);
    fault("fee 0000", -1);
    fault("fee 00001", 4);
    fault("fee 1 2", 6);
    fault("fee 1s", 5);
    fault("fee s1", 5);
    fault("fee 1+", 6);
    fault("fee 1 + ", 8);
    fault("fee +1", 4);
    fault("fee -1", 4);
    fault("fee 1--1", 6);
    fault("fee 1<2<3", 7);
    fault("fee 1<2=3", 7);
    fault("fee 1<2&3>4|5=6", -1);
    fault("fee (1<2)<3", -1);
    fault("fee 1<(2<3)", -1);
    fault("fee 1<=2", 6);
    fault("fee 1&&2", 6);
    fault("fee )", 4);
    fault("fee 1)", 5);
    fault("fee (1", 6);
    fault("fee (1))", 7);
    fault("fee ()", 5);
    fault("fee (1 2)", 7);
    fault("fee 1!", 5);
    fault("fee !", 5);
    fault("fee S", 4);
    fault("fee 1.", 5);
    fault("fee\t1", 3);
    fault("fee 1" + (char) 0, 5);
    fault("fee 1" + (char) 200, 5);
    fault("fee ((((((((1))))))))", -1);
    fault("fee (((((((((1)))))))))", 12);
    fault("fee ((((((((1))))))))+((((((((1))))))))", -1);
    fault("fee !!!!!!!!1", -1);
    fault("fee !!!!!!!!!1", 12);
    fault("fee !!!!!!!!1+!!!!!!!!1", -1);
    fault("fee !!!!(!!!!1)", -1);
    fault("fee !!!!(!!!!!1)", 13);
    fault("fee !!!!(1)+!!!!!!!!1", -1);
    fault("fee (!!!!!!!!1)+!1", -1);
    fault("fee !(!(!(!(!(!(!(!(1))))))))", -1);
    fault("fee !(!(!(!(!(!(!(!((1)))))))))", 20);
    fault("fee !(!(!(!(!(!(!(!(!1))))))))", 20);
    StringBuilder longest = new StringBuilder("fee 1");
    while (longest.length() < 95) longest.append("+1");
    fault(longest.toString(), -1);
    fault(longest + "+", 96);
    fault(longest + " ", -1);
  }

  private static void value(String s, int want) {
    UnderWhitewash x = new UnderWhitewash();
    due(29, "'" + s + "' is a text", say(x, s), 0);
    due(25, "'" + s + "' gives", x.fee(), want);
  }

  private static void values() {
    value("fee 1-2-3", -4);
    value("fee 100/7/2", 7);
    value("fee 2+3*4", 14);
    value("fee (2+3)*4", 20);
    value("fee 2*3/4", 1);
    value("fee (0-7)/2", 0 - 3);
    value("fee 7/0", 0);
    value("fee 7/(1-1)+5", 5);
    value("fee 9999*9999*9999", 9999 * 9999 * 9999);
    value("fee (0-8*4096*4096*16)/(0-1)", MIN);
    value("fee 1<2", 1);
    value("fee 2<1", 0);
    value("fee 2>1", 1);
    value("fee 1>1", 0);
    value("fee 3=3", 1);
    value("fee 3=4", 0);
    value("fee 1+1=2", 1);
    value("fee 2&4", 1);
    value("fee 1&1", 1);
    value("fee 0&2", 0);
    value("fee 2&0", 0);
    value("fee 0|9", 1);
    value("fee 0|0", 0);
    value("fee 1|0&0", 1);
    value("fee (1|0)&0", 0);
    value("fee 1|1=0", 1);
    value("fee !5", 0);
    value("fee !0", 1);
    value("fee !!7", 1);
    value("fee !0+4", 5);
    value("fee !(0+4)", 0);
    value("fee !1*0", 0);
    value("fee 3&!0", 1);
    value("fee 7", 7);
    value("fee 0012", 12);
    breathTexts();
  }

  private static void breathTexts() {
    UnderWhitewash x = new UnderWhitewash();
    x.writes(0, 50, 7, 2);
    x.writes(1, 60, 8, 2);
    x.writes(4, 60, 8, 1);
    x.cell(2, 1, 13);
    say(x, "breath i");
    due(3, "i", x.told(0, 5), 50);
    say(x, "breath d");
    due(3, "d", x.told(0, 5), 7);
    say(x, "breath c");
    due(3, "c", x.told(0, 5), 13);
    say(x, "breath n");
    due(3, "n", x.told(0, 5), 2);
    due(3, "a scratch by n", x.told(1, 5), 7);
    due(3, "n of another cell, a verse", x.told(2, 5), 0);
    say(x, "breath 0-5");
    due(3, "held from below", x.told(0, 5), 0);
    due(3, "held ahead of the 5", x.told(1, 5), 5);
    say(x, "breath 500");
    due(3, "held from above", x.told(0, 5), 99);
    due(3, "a verse", x.told(2, 5), 89);
  }

  private static void textTold() {
    UnderWhitewash x = new UnderWhitewash();
    say(x, "fine i");
    say(x, "breath i+d*(c-n)/!7");
    say(x, "fee 12&(s|g)");
    int[] keys = {2, 0, 1}, leaves = {1, 5, 3};
    for (int k = 0; k < 3; k++) {
      due(30, "key " + k, x.textTold(k, 0), keys[k]);
      due(30, "numbers and names " + k, x.textTold(k, 1), leaves[k]);
    }
    due(30, "what 2", x.textTold(0, 2), BAD);
    due(30, "what -1", x.textTold(0, -1), BAD);
    due(30, "text 3", x.textTold(3, 0), BAD);
    due(30, "text -1", x.textTold(-1, 0), BAD);
  }

  private static void why() {
    UnderWhitewash x = new UnderWhitewash();
    for (int k = 0; k < 3; k++) due(31, "none", x.why(k), NONE);
    say(x, "fine i");
    say(x, "fee s");
    say(x, "fine d");
    due(31, "breath", x.why(0), NONE);
    due(31, "fee", x.why(1), 1);
    due(31, "fine", x.why(2), 2);
    due(31, "3", x.why(3), BAD);
    due(31, "-1", x.why(-1), BAD);
  }

  // ---------------------------------------------------------------- sheets, slots

  private static void sheet() {
    UnderWhitewash x = new UnderWhitewash();
    due(32, "sheet 4", x.sheet(4, 0, 1), BAD);
    due(32, "sheet -1", x.sheet(-1, 0, 1), BAD);
    due(32, "sort 2", x.sheet(0, 2, 1), BAD);
    due(32, "sort -2", x.sheet(0, -2, 1), BAD);
    due(32, "n 25", x.sheet(0, 0, 25), BAD);
    due(32, "n -1", x.sheet(0, 1, -1), SIZE);
    due(32, "n least", x.sheet(0, 0, MIN), SIZE);
    due(32, "bad stands ahead of size", x.sheet(0, 2, -1), BAD);
    due(32, "still missing", x.reads(0), NOTHING);
    due(32, "24", x.sheet(0, 1, 24), 24);
    x.mark(0, 3, 9);
    due(32, "0", x.sheet(1, 0, 0), 0);
    due(32, "it is there", x.reads(1), NONE);
    due(32, "again", x.sheet(0, 0, 4), 4);
    x.lay(0, 2, 0);
    for (int k = 0; k < 4; k++) due(32, "all 0", x.item(0, k), 0);
    due(32, "missing, n any", x.sheet(0, -1, 99), 0);
    due(32, "missing, n below 0", x.sheet(1, -1, -99), 0);
    due(32, "missing", x.reads(0), NOTHING);
  }

  private static void mark() {
    UnderWhitewash x = new UnderWhitewash();
    due(33, "sheet 4", x.mark(4, 0, 0), BAD);
    due(33, "sheet -1", x.mark(-1, 0, 0), BAD);
    due(33, "missing", x.mark(0, 99, 100000), NOTHING);
    x.sheet(0, 0, 3);
    x.sheet(1, 1, 3);
    due(33, "place 3", x.mark(0, 3, NONE), INDEX);
    due(33, "place -1", x.mark(1, -1, 100000), INDEX);
    due(33, "no number in shorts", x.mark(0, 0, NONE), KIND);
    due(33, "above", x.mark(1, 0, 100000), BAD);
    due(33, "below", x.mark(1, 0, -100000), BAD);
    due(33, "a short", x.mark(0, 0, 0x12348765), 1);
    due(33, "a short of 65536", x.mark(0, 1, 65536), 1);
    due(33, "a short of BAD", x.mark(0, 2, BAD), 1);
    due(33, "most", x.mark(1, 0, 99999), 1);
    due(33, "least", x.mark(1, 1, -99999), 1);
    due(33, "no number", x.mark(1, 2, NONE), 1);
    x.lay(0, 2, 0);
    x.lay(1, 2, 1);
    due(33, "lowest 16 bits", x.item(0, 0), (short) 0x8765);
    due(33, "lowest 16 bits of 65536", x.item(0, 1), 0);
    due(33, "lowest 16 bits of BAD", x.item(0, 2), (short) BAD);
    due(33, "most it is", x.item(1, 0), 99999);
    due(33, "least it is", x.item(1, 1), -99999);
    due(33, "no number it is", x.item(1, 2), KIND);
  }

  private static void pour() {
    UnderWhitewash x = new UnderWhitewash();
    due(34, "sheet 4", x.pour(4), BAD);
    due(34, "sheet -1", x.pour(-1), BAD);
    due(34, "missing", x.pour(0), NOTHING);
    for (int k = 0; k < 6; k++) x.writes(0, 50, 0, 0);
    x.sheet(0, 1, 5);
    int[] row = {-7, 50, NONE, 100, 42};
    for (int k = 0; k < 5; k++) x.mark(0, k, row[k]);
    due(34, "how many are otherwise", x.pour(0), 3);
    int[] ink = {0, 50, 50, 99, 42, 50};
    for (int k = 0; k < 6; k++) due(34, "ink " + k, x.told(k, 1), ink[k]);
    due(34, "again", x.pour(0), 0);
    x.sheet(1, 0, 24);
    due(34, "more places than marks", x.pour(1), 5);
  }

  private static void reads() {
    UnderWhitewash x = new UnderWhitewash();
    due(35, "sheet 4", x.reads(4), BAD);
    due(35, "sheet -1", x.reads(-1), BAD);
    due(35, "missing", x.reads(3), NOTHING);
    x.writes(0, 1, 1, 4);
    x.writes(0, 1, 1, 0);
    x.sheet(0, 1, 4);
    due(35, "0 is not 4", x.reads(0), 0);
    x.mark(0, 0, 4);
    due(35, "place 2 is no mark", x.reads(0), 2);
    x.mark(0, 2, NONE);
    due(35, "place 3 is no mark", x.reads(0), 3);
    x.mark(0, 3, NONE);
    due(35, "none", x.reads(0), NONE);
    x.mark(0, 0, NONE);
    x.mark(0, 1, 1);
    due(35, "of numbers alone", x.reads(0), 1);
    x.sheet(1, 0, 0);
    due(35, "no places", x.reads(1), NONE);
  }

  private static void copy() {
    UnderWhitewash x = new UnderWhitewash();
    x.sheet(0, 0, 5);
    x.sheet(1, 0, 3);
    x.sheet(2, 1, 5);
    for (int k = 0; k < 5; k++) x.mark(0, k, 10 + k);
    due(36, "from 4", x.copy(4, 0, 0, 0, 1), BAD);
    due(36, "from -1", x.copy(-1, 0, 0, 0, 1), BAD);
    due(36, "to 4", x.copy(0, 0, 4, 0, 1), BAD);
    due(36, "to -1", x.copy(0, 0, -1, 0, 1), BAD);
    due(36, "from a missing one", x.copy(3, 0, 0, 0, 1), NOTHING);
    due(36, "to a missing one", x.copy(0, -1, 3, 0, 1), NOTHING);
    due(36, "of another sort", x.copy(0, -1, 2, 0, 1), KIND);
    int[][] outside = {{-1, 0, 1}, {0, -1, 1}, {0, 0, -1}, {0, 0, 4}, {3, 0, 3}, {0, 1, 3}, {5, 0, 1}, {6, 0, 0}, {0, 4, 0},
        {0, 0, MAX}, {MAX, 0, 1}, {1, 0, MAX}, {0, MAX, MAX}, {MIN, 0, 1}, {0, 0, MIN}};
    for (int[] o : outside) due(36, "outside " + o[0] + " " + o[1] + " " + o[2], x.copy(0, o[0], 1, o[1], o[2]), INDEX);
    due(36, "none, at the ends", x.copy(0, 5, 1, 3, 0), 0);
    due(36, "three", x.copy(0, 2, 1, 0, 3), 3);
    due(36, "upwards in itself", x.copy(0, 0, 0, 1, 4), 4);
    x.lay(0, 2, 0);
    x.lay(1, 2, 1);
    int[] first = {10, 10, 11, 12, 13}, second = {12, 13, 14};
    for (int k = 0; k < 5; k++) due(36, "as they were", x.item(0, k), first[k]);
    for (int k = 0; k < 3; k++) due(36, "came", x.item(1, k), second[k]);
    due(36, "downwards in itself", x.copy(0, 1, 0, 0, 4), 4);
    x.lay(0, 2, 0);
    int[] third = {10, 11, 12, 13, 13};
    for (int k = 0; k < 5; k++) due(36, "as they were again", x.item(0, k), third[k]);
    x.sheet(3, 1, 2);
    x.mark(2, 4, NONE);
    due(36, "no number comes along", x.copy(2, 4, 3, 1, 1), 1);
    x.lay(0, 2, 3);
    due(36, "no number", x.item(0, 1), KIND);
  }

  private static void lay() {
    UnderWhitewash x = new UnderWhitewash();
    x.writes(1, 50, 5, 0);
    x.sheet(0, 0, 2);
    due(37, "slot 5", x.lay(5, 0, 0), BAD);
    due(37, "slot -1", x.lay(-1, 0, 0), BAD);
    due(37, "thing 4", x.lay(0, 4, 0), BAD);
    due(37, "thing -1", x.lay(0, -1, 0), BAD);
    due(37, "mark 1", x.lay(0, 1, 1), BAD);
    due(37, "mark -1", x.lay(0, 1, -1), BAD);
    due(37, "sheet 4", x.lay(0, 2, 4), BAD);
    due(37, "sheet -1", x.lay(0, 2, -1), BAD);
    due(37, "a missing sheet", x.lay(0, 2, 1), NOTHING);
    due(37, "nothing, k any", x.lay(0, 0, MIN), 0);
    due(37, "a mark", x.lay(0, 1, 0), 0);
    due(37, "a sheet", x.lay(0, 2, 0), 1);
    due(37, "refused: it stays", x.lay(0, 2, 3), NOTHING);
    due(37, "a number", x.lay(0, 3, MAX), 2);
    due(37, "nothing", x.lay(0, 0, 0), 3);
    due(37, "it held nothing", x.lay(0, 3, 1), 0);
    due(37, "another slot", x.lay(4, 3, 1), 0);
    x.lay(1, 2, 0);
    x.mark(0, 1, 7);
    due(37, "a row of its own", x.item(1, 1), 0);
    x.sheet(0, -1, 0);
    due(37, "still there", x.item(1, 1), 0);
    due(37, "with its places", x.item(1, 2), INDEX);
    x.lay(2, 1, 0);
    x.set(0, 1, 90);
    x.set(0, 4, 9);
    x.turns(0, 5);
    due(37, "a mark as it was then", x.ask(2, 1), 50);
  }

  private static void ask() {
    UnderWhitewash x = new UnderWhitewash();
    int[] worth = {51, 61, 48, 30, 55, 10};
    int[] under = {0b000001, 0b000011, 0b000101, 0b001011, 0b010101, 0b100001};
    for (int m = 0; m < 6; m++) {
      x.writes(m, 51, 5, 0);
      x.set(m, 4, 10);
      x.lay(0, 1, m);
      for (int k = 0; k < 6; k++)
        due(38, "ask " + m + " as " + k, x.ask(0, k), (under[m] >> k & 1) == 1 ? worth[m] : KIND);
    }
    due(38, "slot 5", x.ask(5, 0), BAD);
    due(38, "slot -1", x.ask(-1, 0), BAD);
    due(38, "kind 6", x.ask(1, 6), BAD);
    due(38, "kind -1", x.ask(0, -1), BAD);
    due(38, "nothing", x.ask(1, 0), NOTHING);
    x.lay(1, 3, 0);
    due(38, "a number", x.ask(1, 0), KIND);
    x.sheet(0, 0, 1);
    x.lay(1, 2, 0);
    due(38, "a sheet", x.ask(1, 0), KIND);
  }

  private static void item() {
    UnderWhitewash x = new UnderWhitewash();
    x.writes(0, 51, 5, 0);
    x.sheet(0, 1, 2);
    x.mark(0, 1, NONE);
    due(39, "slot 5", x.item(5, 0), BAD);
    due(39, "slot -1", x.item(-1, 0), BAD);
    due(39, "nothing", x.item(0, 99), NOTHING);
    x.lay(0, 3, 1);
    due(39, "a number", x.item(0, 99), KIND);
    x.lay(0, 1, 0);
    due(39, "a mark", x.item(0, 0), KIND);
    x.lay(0, 2, 0);
    due(39, "place 0", x.item(0, 0), 0);
    due(39, "no number", x.item(0, 1), KIND);
    due(39, "place 2", x.item(0, 2), INDEX);
    due(39, "place -1", x.item(0, -1), INDEX);
  }

  private static void rest() {
    UnderWhitewash x = new UnderWhitewash();
    x.writes(0, 51, 5, 0);
    x.sheet(0, 1, 2);
    due(40, "slot 5", x.rest(5, 0), BAD);
    due(40, "slot -1", x.rest(-1, 1), BAD);
    due(40, "nothing", x.rest(0, 0), NOTHING);
    x.lay(0, 1, 0);
    due(40, "a mark", x.rest(0, 0), KIND);
    x.lay(0, 2, 0);
    due(40, "a sheet", x.rest(0, 1), KIND);
    x.lay(0, 3, -17);
    due(40, "by 0", x.rest(0, 0), NO);
    due(40, "by 5", x.rest(0, 5), -2);
    due(40, "by -5", x.rest(0, -5), -2);
    x.lay(0, 3, MIN);
    due(40, "by -1", x.rest(0, -1), 0);
    due(40, "by most", x.rest(0, MAX), -1);
  }

  // ---------------------------------------------------------------- rows, images

  private static void tell() {
    UnderWhitewash x = new UnderWhitewash();
    for (int k = 1; k <= 60; k++) due(41, "tell", x.tell(-k), k);
    due(41, "60 wait", x.tell(1), FULL);
    due(41, "still 60", x.count(6), 60);
  }

  private static void check() {
    UnderWhitewash x = new UnderWhitewash();
    x.tell(1);
    due(42, "no image", x.check(1), NO);
    due(42, "none wait then", x.count(6), 0);
    x.tell(1);
    due(42, "bad stands ahead of no", x.check(0), BAD);
    due(42, "none wait then either", x.count(6), 0);
    due(42, "31", x.check(31), BAD);
    x.writes(0, 60, 10, 0);
    x.writes(5, 60, 10, 1);
    x.keep();
    // Shown: 1, 2, 2; depth of all: 21, 22, 23.
    x.turns(0, 3);
    x.springs(7);
    int[] due = {1, 21, 2, 22, 2, 23};
    for (int v : due) x.tell(v);
    due(42, "by the image", x.check(3), 0);
    for (int v : due) x.tell(v);
    due(42, "two too many", x.check(2), 5);
    for (int v : due) x.tell(v);
    due(42, "two are missing", x.check(4), 7);
    for (int v : due) x.tell(v);
    x.tell(2);
    due(42, "one too many", x.check(3), 7);
    for (int w = 0; w < 6; w++) {
      for (int k = 0; k < 6; k++) x.tell(due[k] + (k >= w ? 1 : 0));
      due(42, "the first that is not: " + w, x.check(3), 1 + w);
    }
    due(42, "all are missing", x.check(30), 1);
    due(42, "the state is as it was", x.count(1), 7);
    x.back();
    for (int k = 0; k < 30; k++) {
      x.springs(1);
      x.tell(x.walls(0));
      x.tell(x.walls(2));
    }
    due(42, "thirty", x.check(30), 0);
    bounded();
  }

  private static void bounded() {
    UnderWhitewash x = new UnderWhitewash();
    times(x, 9998);
    x.keep();
    x.tell(0);
    x.tell(0);
    due(42, "one spring is left", x.check(30), 0);
    x.springs(1);
    x.keep();
    due(42, "none is left", x.check(30), 0);
    x.tell(0);
    due(42, "one too many of none", x.check(1), 1);
  }

  private static void keepAndBack() {
    UnderWhitewash x = new UnderWhitewash();
    due(44, "none", x.back(), NO);
    due(43, "keep", x.keep(), 0);
    x.deal(7);
    x.rule(0, 2);
    x.rule(1, 30);
    x.rule(2, 40);
    x.cell(3, 0, 9);
    x.cell(3, 1, 99);
    x.springs(5);
    due(43, "keep again", x.keep(), 7);
    int[] was = state(x);
    x.tell(5);
    x.feed(1, 2, 3);
    x.sheet(0, 0, 3);
    x.lay(0, 3, 4);
    for (int round = 0; round < 2; round++) {
      x.deal(3);
      x.rule(0, 5);
      x.rule(1, 1);
      x.rule(2, 99);
      x.turns(0, (was[0] + 1) % 6);
      x.set(1, 3, 2);
      x.springs(50);
      x.dig(1, 9);
      x.seed(9);
      due(44, "back", x.back(), 7);
      int[] is = state(x);
      for (int k = 0; k < was.length; k++) due(44, "state " + k, is[k], was[k]);
    }
    due(44, "numbers that wait stay", x.count(6), 1);
    due(44, "the tape stays", x.count(7), 12);
    due(44, "sheets stay", x.like(0, 1) >= 0 ? 1 : 0, 1);
    due(44, "slots stay", x.rest(0, 10), 4);
    due(44, "the eighth mark is gone", x.told(7, 0), BAD);
  }

  private static int[] state(UnderWhitewash x) {
    int[] s = new int[120];
    int n = 0;
    for (int m = 0; m < 7; m++) for (int w = 0; w < 9; w++) s[n++] = x.told(m, w);
    for (int c = 0; c < 6; c++) for (int w = 0; w < 4; w++) s[n++] = x.cellOf(c, w);
    for (int w = 0; w < 7; w++) s[n++] = x.walls(w);
    for (int w = 0; w < 9; w++) if (w < 6 || w > 7) s[n++] = x.count(w);
    return s;
  }

  private static void imageAndTexts() {
    UnderWhitewash x = new UnderWhitewash();
    x.writes(0, 50, 10, 0);
    say(x, "breath 30");
    say(x, "fee 11");
    x.keep();
    say(x, "breath 0");
    say(x, "fee 22");
    say(x, "fine 33");
    x.tell(1);
    x.tell(11);
    due(42, "the image's own text counts", x.check(1), 0);
    due(45, "five", x.count(5), 5);
    due(44, "back", x.back(), 1);
    due(45, "two", x.count(5), 2);
    due(44, "breath", x.told(0, 5), 30);
    due(44, "fee", x.fee(), 11);
    due(44, "fine", x.fine(0), 50);
    due(44, "why fine", x.why(2), NONE);
    due(44, "why fee", x.why(1), 1);
    due(44, "gone", x.textTold(2, 0), BAD);
    due(44, "numbers go on from there", say(x, "fine 44"), 2);
    due(44, "the new one counts", x.fine(0), 44);
    due(44, "back again", x.back(), 1);
    due(44, "and it is gone", x.fine(0), 50);
    due(44, "breath still", x.told(0, 5), 30);
  }

  private static void count() {
    UnderWhitewash x = new UnderWhitewash();
    x.deal(4);
    x.springs(3);
    x.rule(0, 4);
    x.rule(1, 5);
    x.rule(2, 6);
    say(x, "fee 1");
    x.tell(0);
    x.tell(0);
    x.feed(0, 0, 0);
    x.seed(88);
    int[] want = {4, 3, 4, 5, 6, 1, 2, 12, 88};
    for (int k = 0; k < 9; k++) due(45, "count " + k, x.count(k), want[k]);
    due(45, "9", x.count(9), BAD);
    due(45, "-1", x.count(-1), BAD);
  }
}
