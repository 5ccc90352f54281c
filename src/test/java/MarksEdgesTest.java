/** Boundary cases of promises 1 to 12, each answer read off a sentence of the document. */
public final class MarksEdgesTest {
  private static final int BAD = Edges.BAD, FULL = Edges.FULL, NONE = Edges.NONE, NOTHING = Edges.NOTHING, KIND = Edges.KIND,
      NO = Edges.NO, MIN = Edges.MIN, MAX = Edges.MAX;

  public static void main(String[] args) {
    newObject(); refusedOnNew();
    writes(); writtenAnew(); told(); plain(); plainByText(); scratchAndTally(); shipAndVerse(); leant(); sinks(); fades(); worth();
    as(); turns(); set(); moved(); cell(); cellOf(); rule(); deal(); draws(); seed(); fewest(); fewestOfSeveral();
    Edges.end();
  }

  private static void due(int promise, String said, int got, int want) { Edges.due(promise, said, got, want); }

  private static UnderWhitewash with(int... ofEachFour) {
    UnderWhitewash x = new UnderWhitewash();
    for (int k = 0; k < ofEachFour.length; k += 4) x.writes(ofEachFour[k], ofEachFour[k + 1], ofEachFour[k + 2], ofEachFour[k + 3]);
    return x;
  }

  // ---------------------------------------------------------------- 1

  private static void newObject() {
    UnderWhitewash x = new UnderWhitewash();
    due(1, "no MARKS", x.count(0), 0);
    for (int c = 0; c < 6; c++) {
      due(1, "WIDE 60 at first", x.cellOf(c, 0), 60);
      due(1, "COATS 0 at first", x.cellOf(c, 1), 0);
      due(1, "no MARKS in it", x.cellOf(c, 2), 0);
      due(1, "nothing shows in it", x.cellOf(c, 3), 0);
      due(1, "a breath on an empty cell", x.breathe(c), 0);
    }
    due(1, "THICK 3 at first", x.count(2), 3);
    due(1, "EYES 20 at first", x.count(3), 20);
    due(1, "SPOONS 0 at first", x.count(4), 0);
    due(1, "SHOWN 0 at first", x.walls(0), 0);
    due(1, "DUG 0 at first", x.walls(1), 0);
    for (int w = 2; w < 5; w++) due(1, "of no MARKS together", x.walls(w), 0);
    due(1, "of several the least", x.walls(5), 0);
    due(1, "no LEGIBLE ones", x.walls(6), 0);
    due(1, "THE SPRING is 0 at first", x.count(1), 0);
    due(1, "z is 1 at first", x.count(8), 1);
    due(1, "no TEXTS", x.count(5), 0);
    due(1, "no numbers wait", x.count(6), 0);
    due(1, "THE TAPE is empty", x.count(7), 0);
    due(1, "fee without a TEXT", x.fee(), 0);
    due(1, "the fewest of none for 0", x.fewest(0, 0), 0);
    due(1, "0 of them", x.fewest(0, 1), 0);
  }

  private static void refusedOnNew() {
    Edges.Scene n = Edges::fresh;
    Edges.unchanged(3, "told of no MARK", n, BAD, x -> x.told(0, 0));
    Edges.unchanged(4, "as of no MARK", n, BAD, x -> x.as(0, 0));
    Edges.unchanged(5, "turns of no MARK", n, BAD, x -> x.turns(0, 0));
    Edges.unchanged(6, "set of no MARK", n, BAD, x -> x.set(0, 1, 0));
    Edges.unchanged(12, "none show 1", n, NONE, x -> x.fewest(1, 0));
    Edges.unchanged(17, "5 and 0 of no MARK", n, BAD, x -> x.behind(0, 5));
    Edges.unchanged(18, "lost of no MARK", n, BAD, x -> x.lost(0));
    Edges.unchanged(20, "spoon of no MARK", n, BAD, x -> x.spoon(0, 0));
    Edges.unchanged(21, "place of no MARK", n, BAD, x -> x.place(0, 1, 0));
    Edges.unchanged(22, "becomes of no MARK", n, BAD, x -> x.becomes(0, 1, 0));
    Edges.unchanged(23, "with none", n, NONE, x -> x.eyes(60, 1));
    Edges.unchanged(24, "SHEETS are MISSING at first", n, NOTHING, x -> x.like(0, 0));
    Edges.unchanged(26, "fine of no MARK", n, BAD, x -> x.fine(0));
    Edges.unchanged(29, "the end of an empty tape", n, -100, x -> x.text());
    Edges.unchanged(30, "no TEXT", n, BAD, x -> x.textTold(0, 0));
    for (int k = 0; k < 3; k++) {
      int key = k;
      Edges.unchanged(31, "no TEXT counts", n, NONE, x -> x.why(key));
    }
    for (int k = 0; k < 4; k++) {
      int sheet = k;
      Edges.unchanged(33, "SHEETS are MISSING at first", n, NOTHING, x -> x.mark(sheet, 0, 0));
      Edges.unchanged(34, "SHEETS are MISSING at first", n, NOTHING, x -> x.pour(sheet));
      Edges.unchanged(35, "SHEETS are MISSING at first", n, NOTHING, x -> x.reads(sheet));
      Edges.unchanged(36, "SHEETS are MISSING at first", n, NOTHING, x -> x.copy(sheet, 0, sheet, 0, 0));
      Edges.unchanged(37, "SHEETS are MISSING at first", n, NOTHING, x -> x.lay(0, 2, sheet));
    }
    for (int k = 0; k < 5; k++) {
      int slot = k;
      Edges.unchanged(38, "SLOTS hold nothing at first", n, NOTHING, x -> x.ask(slot, 0));
      Edges.unchanged(39, "SLOTS hold nothing at first", n, NOTHING, x -> x.item(slot, 0));
      Edges.unchanged(40, "SLOTS hold nothing at first", n, NOTHING, x -> x.rest(slot, 1));
      Edges.unchanged(37, "what it held: 0", n, 0, x -> x.lay(slot, 0, 0));
    }
    Edges.unchanged(37, "k of no MARK", n, BAD, x -> x.lay(0, 1, 0));
    Edges.unchanged(42, "there is no IMAGE", n, NO, x -> x.check(1));
    Edges.unchanged(44, "there is none", n, NO, x -> x.back());
  }

  // ---------------------------------------------------------------- 2

  private static void writes() {
    Edges.outside(2, "KINDS 0 .. 5", Edges::rich, 0, 5, (x, v) -> x.writes(v, 50, 50, 0));
    Edges.outside(2, "INK 0 .. 99", Edges::rich, 0, 99, (x, v) -> x.writes(0, v, 50, 0));
    Edges.outside(2, "DEPTH 0 .. 9999", Edges::rich, 0, 9999, (x, v) -> x.writes(0, 50, v, 0));
    Edges.outside(2, "CELLS 0 .. 5", Edges::rich, 0, 5, (x, v) -> x.writes(0, 50, 50, v));
    UnderWhitewash x = new UnderWhitewash();
    due(2, "numbered from 0", x.writes(0, 50, 50, 0), 0);
    int[][] taken = {{0, 0, 0, 0}, {5, 99, 9999, 5}, {5, 0, 0, 0}, {0, 99, 0, 0}, {0, 0, 9999, 0}, {0, 0, 0, 5}};
    for (int k = 0; k < taken.length; k++) {
      due(2, "the last that are taken", x.writes(taken[k][0], taken[k][1], taken[k][2], taken[k][3]), 1 + k);
      for (int w = 0; w < 4; w++) due(2, "as they were given", x.told(1 + k, w), taken[k][w]);
      due(2, "SEEN 0 at first", x.told(1 + k, 4), 0);
    }
    due(2, "the eighth", x.writes(0, 1, 1, 1), 7);
    due(2, "the ninth", x.writes(0, 1, 1, 1), 8);
    due(2, "10 at most: the tenth", x.writes(0, 1, 1, 1), 9);
    Edges.unchanged(2, "10 at most: the eleventh", Edges::full, FULL, y -> y.writes(0, 1, 1, 1));
    Edges.unchanged(2, "BAD stands ahead of FULL", Edges::full, BAD, y -> y.writes(0, 100, 1, 1));
  }

  private static void writtenAnew() {
    UnderWhitewash x = new UnderWhitewash();
    x.keep();
    x.writes(5, 90, 9, 3);
    x.set(0, 4, 77);
    x.back();
    due(2, "its number is free again", x.writes(2, 40, 0, 2), 0);
    due(2, "SEEN 0 at first, whatever had that number", x.told(0, 4), 0);
    due(2, "nothing else is in its CELL", x.told(0, 5), 40);
  }

  // ---------------------------------------------------------------- 3

  private static void told() {
    Edges.outside(3, "six MARKS", Edges::rich, 0, 5, (x, v) -> x.told(v, 0));
    Edges.outside(3, "ten MARKS", Edges::full, 0, 9, (x, v) -> x.told(v, 8));
    Edges.outside(3, "what 0 .. 8", Edges::rich, 0, 8, (x, v) -> x.told(0, v));
    for (int w = 0; w <= 8; w++) {
      int what = w;
      int answer = Edges.full().told(9, w);
      due(3, "the last MARK is one", answer == BAD ? 1 : 0, 0);
      Edges.unchanged(3, "told changes nothing", Edges::full, answer, x -> x.told(9, what));
    }
  }

  private static void plain() {
    int[][] rows = {{5, 5, 0}, {5, 6, 0}, {6, 5, 1}, {0, 0, 0}, {0, 9999, 0}, {99, 0, 99}, {99, 98, 1}, {99, 99, 0}, {99, 100, 0}};
    for (int[] r : rows) due(3, "INK " + r[0] + " less DEPTH " + r[1] + ", held", with(0, r[0], r[1], 0).told(0, 5), r[2]);
  }

  private static void plainByText() {
    String[] texts = {"breath 98", "breath 99", "breath 100", "breath 9999", "breath 1", "breath 0", "breath 0-1", "breath 0-9999",
        "breath 9999*9999*30", "breath 9999*9999*9*5"};
    int[] want = {98, 99, 99, 99, 1, 0, 0, 0, hold(9999 * 9999 * 30), hold(9999 * 9999 * 9 * 5)};
    for (int k = 0; k < texts.length; k++) {
      UnderWhitewash x = with(0, 50, 10, 0);
      Edges.say(x, texts[k]);
      due(3, "'" + texts[k] + "' held within 0 and 99", x.told(0, 5), want[k]);
    }
    UnderWhitewash x = with(0, 0, 0, 0, 0, 99, 9999, 5);
    x.cell(5, 1, 9999);
    Edges.say(x, "breath (i=99)+2*(d=9999)+4*(c=9999)+8*(n=1)");
    due(3, "the most of each NAME", x.told(1, 5), 15);
    Edges.say(x, "breath (i=0)+2*(d=0)+4*(c=0)+8*(n=1)");
    due(3, "the least of each NAME", x.told(0, 5), 15);
    for (int k = 2; k < 10; k++) x.writes(0, 1, 1, 0);
    x.set(1, 3, 0);
    Edges.say(x, "breath n");
    due(3, "ten MARKS in its CELL", x.told(9, 5), 10);
  }

  private static int hold(int v) { return Math.max(0, Math.min(99, v)); }

  private static void scratchAndTally() {
    int[][] rows = {{0, 5, 2}, {1, 6, 3}, {92, 97, 48}, {93, 98, 49}, {94, 99, 49}, {95, 99, 49}, {99, 99, 49}};
    for (int[] r : rows) {
      due(3, "SCRATCH of " + r[0] + ": and 5 (99 at most)", with(1, r[0], 0, 0).told(0, 5), r[1]);
      due(3, "TALLY of " + r[0] + ": half (cut) of that", with(3, r[0], 0, 0).told(0, 5), r[2]);
    }
  }

  private static void shipAndVerse() {
    for (int others = 0; others < 10; others++) {
      UnderWhitewash x = with(2, 50, 0, 4);
      for (int k = 0; k < others; k++) x.writes(k % 6, 0, 9999, 4);
      if (others < 9) x.writes(0, 99, 0, 3);
      due(3, "2 for each of " + others + " others", x.told(0, 5), 50 + 2 * others);
      x.turns(0, 4);
      due(3, "VERSE: less 10", x.told(0, 5), 40 + 2 * others);
      x.set(0, 1, 99 - 2 * others);
      x.turns(0, 2);
      due(3, "just 99", x.told(0, 5), 99);
      x.set(0, 1, Math.min(99, 100 - 2 * others));
      due(3, "99 at most", x.told(0, 5), 99);
      x.turns(0, 4);
      due(3, "VERSE: 99 at most, less 10", x.told(0, 5), 89);
    }
    int[][] rows = {{11, 1}, {10, 0}, {9, 0}, {0, 0}};
    for (int[] r : rows) due(3, "VERSE of " + r[0] + ": 0 at least", with(4, r[0], 0, 0).told(0, 5), r[1]);
  }

  private static void leant() {
    UnderWhitewash x = with(5, 0, 9999, 0, 5, 99, 0, 0);
    for (int m = 0; m < 2; m++) due(3, "LEANT: 20", x.told(m, 5), 20);
    Edges.say(x, "breath 99");
    for (int m = 0; m < 2; m++) due(3, "LEANT: 20, whatever breath gives", x.told(m, 5), 20);
  }

  private static void sinks() {
    int[] wide = {99, 31, 30, 29, 0};
    int[] apart = {1, 1, 1, 2, 0, 0};
    for (int w : wide) for (int kind = 0; kind < 6; kind++) {
      UnderWhitewash x = with(kind, 50, 0, 5);
      for (int c = 0; c < 5; c++) x.cell(c, 0, 99 - w);
      x.cell(5, 0, w);
      int narrow = w < 30 ? 1 : 0;
      int want = kind == 2 ? 1 + narrow : kind == 4 ? 2 + narrow : apart[kind];
      due(3, "KIND " + kind + " sinks where it is " + w + " WIDE", x.told(0, 6), want);
    }
  }

  private static void fades() {
    int[] want = {1, 1, 0, 3, 3, 5};
    for (int kind = 0; kind < 6; kind++) for (int ink : new int[] {0, 99})
      due(3, "KIND " + kind + " fades, whatever its INK", with(kind, ink, 0, 0).told(0, 7), want[kind]);
  }

  private static void worth() {
    int[][] rows = { // ink, seen, and what each KIND is worth
        {0, 0, 0, 0, 99, 0, 106, 0}, {99, 0, 99, 99, 0, 49, 7, 0}, {0, 1, 0, 1, 99, 0, 106, 1}, {0, 9999, 0, 9999, 99, 4999, 106, 9999},
        {99, 9999, 99, 10098, 0, 5049, 7, 9999}, {98, 9999, 98, 10097, 1, 5048, 8, 9999}};
    for (int[] r : rows) for (int kind = 0; kind < 6; kind++) {
      UnderWhitewash x = with(kind, r[0], 0, 0);
      x.set(0, 4, r[1]);
      due(3, "WORTH of KIND " + kind + " with INK " + r[0] + ", SEEN " + r[1], x.told(0, 8), r[2 + kind]);
    }
  }

  // ---------------------------------------------------------------- 4 to 6

  private static void as() {
    Edges.outside(4, "six MARKS", Edges::rich, 0, 5, (x, v) -> x.as(v, 0));
    Edges.outside(4, "ten MARKS", Edges::full, 0, 9, (x, v) -> x.as(v, 0));
    Edges.outside(4, "KINDS 0 .. 5", Edges::rich, 0, 5, (x, v) -> x.as(0, v));
    int[][] above = {{0}, {0, 1}, {0, 2}, {0, 1, 3}, {0, 2, 4}, {0, 5}};
    for (int m = 0; m < 6; m++) {
      int mark = m;
      int ink = Edges.rich().told(m, 1);
      for (int k = 0; k < 6; k++) {
        int kind = k;
        boolean of = false;
        for (int a : above[m]) of |= a == k;
        Edges.unchanged(4, "a MARK of KIND " + m + " as one of " + k, Edges::rich, of ? ink : KIND, x -> x.as(mark, kind));
      }
    }
    Edges.unchanged(4, "BAD stands ahead of KIND", Edges::rich, BAD, x -> x.as(6, 5));
  }

  private static void turns() {
    Edges.outside(5, "six MARKS", Edges::rich, 0, 5, (x, v) -> x.turns(v, 1));
    Edges.outside(5, "ten MARKS", Edges::full, 0, 9, (x, v) -> x.turns(v, 1));
    Edges.outside(5, "KINDS 0 .. 5", Edges::rich, 0, 5, (x, v) -> x.turns(1, v));
    Edges.unchanged(5, "the KIND that it is of", Edges::rich, 3, x -> x.turns(3, 3));
    UnderWhitewash x = Edges.full();
    int was = x.told(9, 0);
    for (int k = 0; k < 6; k++) {
      due(5, "what it was", x.turns(9, k), was);
      due(5, "what it is", x.told(9, 0), k);
      was = k;
    }
  }

  private static void set() {
    int[] most = {99, 9999, 5, 9999};
    Edges.outside(6, "what 1 .. 4", Edges::rich, 1, 4, (x, v) -> x.set(1, v, 2));
    for (int w = 1; w <= 4; w++) {
      int what = w;
      Edges.outside(6, "six MARKS", Edges::rich, 0, 5, (x, v) -> x.set(v, what, 2));
      Edges.outside(6, "ten MARKS", Edges::full, 0, 9, (x, v) -> x.set(v, what, 2));
      Edges.outside(6, "what " + w + ": 0 .. " + most[w - 1], Edges::rich, 0, most[w - 1], (x, v) -> x.set(1, what, v));
      UnderWhitewash x = Edges.full();
      int was = x.told(9, w);
      due(6, "the most of " + w, x.set(9, w, most[w - 1]), was);
      due(6, "the least of " + w, x.set(9, w, 0), most[w - 1]);
      due(6, "it is", x.told(9, w), 0);
    }
  }

  private static void moved() {
    Edges.unchanged(6, "the CELL in which it is", Edges::rich, 1, x -> x.set(2, 3, 1));
    UnderWhitewash x = with(2, 50, 0, 0, 2, 50, 0, 0, 2, 50, 0, 5);
    x.set(1, 3, 5);
    due(6, "one fewer in the old CELL", x.told(0, 5), 50);
    due(6, "one more in the new one", x.told(2, 5), 52);
    due(6, "sets", x.cellOf(0, 2), 1);
    due(6, "sets", x.cellOf(5, 2), 6);
  }

  // ---------------------------------------------------------------- 7 to 9

  private static void cell() {
    Edges.outside(7, "CELLS 0 .. 5", Edges::rich, 0, 5, (x, v) -> x.cell(v, 0, 9));
    Edges.outside(7, "what 0, 1", Edges::rich, 0, 1, (x, v) -> x.cell(1, v, 9));
    Edges.outside(7, "WIDE 0 .. 99", Edges::rich, 0, 99, (x, v) -> x.cell(1, 0, v));
    Edges.outside(7, "COATS 0 .. 9999", Edges::rich, 0, 9999, (x, v) -> x.cell(1, 1, v));
    UnderWhitewash x = new UnderWhitewash();
    for (int c = 0; c < 6; c += 5) {
      due(7, "WIDE 99", x.cell(c, 0, 99), 60);
      due(7, "WIDE 0", x.cell(c, 0, 0), 99);
      due(7, "WIDE is", x.cell(c, 0, 60), 0);
      due(7, "COATS 9999", x.cell(c, 1, 9999), 0);
      due(7, "COATS 0", x.cell(c, 1, 0), 9999);
      due(7, "COATS are", x.cellOf(c, 1), 0);
    }
  }

  private static void cellOf() {
    Edges.outside(8, "CELLS 0 .. 5", Edges::rich, 0, 5, (x, v) -> x.cellOf(v, 0));
    Edges.outside(8, "what 0 .. 3", Edges::rich, 0, 3, (x, v) -> x.cellOf(1, v));
    UnderWhitewash x = new UnderWhitewash();
    for (int k = 0; k < 10; k++) x.writes(0, 99, 0, 5);
    due(8, "all ten", x.cellOf(5, 2), 1023);
    due(8, "the most that ten show", x.cellOf(5, 3), 990);
    due(8, "none", x.cellOf(4, 2), 0);
    due(8, "what none show", x.cellOf(4, 3), 0);
    for (int w = 0; w < 4; w++) {
      int what = w;
      Edges.unchanged(8, "cellOf changes nothing", Edges::rich, Edges.rich().cellOf(0, w), y -> y.cellOf(0, what));
    }
  }

  private static void rule() {
    Edges.outside(9, "RULES 0 .. 2", Edges::rich, 0, 2, (x, v) -> x.rule(v, 5));
    Edges.outside(9, "THICK 1 .. 9", Edges::rich, 1, 9, (x, v) -> x.rule(0, v));
    Edges.outside(9, "EYES 0 .. 99", Edges::rich, 0, 99, (x, v) -> x.rule(1, v));
    Edges.outside(9, "SPOONS 0 .. 100", Edges::rich, 0, 100, (x, v) -> x.rule(2, v));
    int[] first = {3, 20, 0}, least = {1, 0, 0}, most = {9, 99, 100};
    UnderWhitewash x = new UnderWhitewash();
    for (int w = 0; w < 3; w++) {
      due(9, "the most of " + w, x.rule(w, most[w]), first[w]);
      due(9, "the least of " + w, x.rule(w, least[w]), most[w]);
      due(9, "it is", x.count(2 + w), least[w]);
    }
  }

  // ---------------------------------------------------------------- 10, 11

  private static void deal() {
    Edges.outside(10, "n 1 .. 10", Edges::rich, 1, 10, (x, v) -> x.deal(v));
    Edges.outside(10, "n 1 .. 10, with no room", Edges::full, 1, 10, (x, v) -> x.deal(v));
    for (int n = 1; n <= 10; n += 9) {
      int many = n;
      Edges.unchanged(10, "no room: none came, no draws", Edges::full, 0, x -> x.deal(many));
      UnderWhitewash x = new UnderWhitewash();
      due(10, "as many as asked for", x.deal(n), n);
      due(10, "they are there", x.count(0), n);
      due(10, "four draws for each", x.count(8), drawn(1, 4 * n));
    }
    UnderWhitewash x = new UnderWhitewash();
    for (int k = 0; k < 9; k++) x.writes(0, 1, 1, 1);
    due(10, "room for one", x.deal(2), 1);
    due(10, "no draws for the other", x.count(8), drawn(1, 4));
  }

  private static int drawn(int z, int many) {
    for (int k = 0; k < many; k++) z = z * 1103515245 + 12345;
    return z;
  }

  private static void draws() {
    int least = 99, most = 0, deepest = 0, kinds = 0, cells = 0;
    for (int k = 0; k < 40; k++) {
      int seed = k < 4 ? new int[] {0, -1, MIN, MAX}[k] : k;
      UnderWhitewash x = new UnderWhitewash();
      x.seed(seed);
      x.deal(10);
      int z = seed;
      for (int m = 0; m < 10; m++) {
        int[] rest = {6, 70, 40, 6}, more = {0, 30, 0, 0};
        for (int w = 0; w < 4; w++) {
          z = z * 1103515245 + 12345;
          due(10, "drawn by seed " + seed, x.told(m, w), (z >>> 8) % rest[w] + more[w]);
        }
        least = Math.min(least, x.told(m, 1));
        most = Math.max(most, x.told(m, 1));
        deepest = Math.max(deepest, x.told(m, 2));
        kinds |= 1 << x.told(m, 0);
        cells |= 1 << x.told(m, 3);
        due(10, "SEEN 0 at first", x.told(m, 4), 0);
      }
      due(10, "z (an int) wraps", x.count(8), z);
    }
    due(10, "INK 30 at least", least, 30);
    due(10, "INK 99 at most", most, 99);
    due(10, "DEPTH 39 at most", deepest, 39);
    due(10, "each KIND", kinds, 63);
    due(10, "each CELL", cells, 63);
  }

  private static void seed() {
    UnderWhitewash x = new UnderWhitewash();
    int[] row = {MIN, MAX, 0, -1, 1, BAD, NONE};
    int was = 1;
    for (int v : row) {
      due(11, "what it was", x.seed(v), was);
      due(11, "what it is", x.count(8), v);
      was = v;
    }
    Edges.unchanged(11, "z becomes what it is", Edges::fresh, 1, y -> y.seed(1));
  }

  // ---------------------------------------------------------------- 12

  private static void fewest() {
    Edges.outside(12, "v 0 .. 999", Edges::rich, 0, 999, (x, v) -> x.fewest(v, 0));
    Edges.outside(12, "what 0, 1", Edges::rich, 0, 1, (x, v) -> x.fewest(10, v));
    Edges.unchanged(12, "BAD stands ahead of NONE", Edges::fresh, BAD, x -> x.fewest(999, 2));
    Edges.unchanged(12, "for 0 none are needed", Edges::rich, 0, x -> x.fewest(0, 0));
    Edges.unchanged(12, "for 999 not all are enough", Edges::rich, NONE, x -> x.fewest(999, 0));
    Edges.unchanged(12, "nor for how many", Edges::rich, NONE, x -> x.fewest(999, 1));
    UnderWhitewash x = new UnderWhitewash();
    for (int k = 0; k < 10; k++) x.writes(0, 99, 0, k % 6);
    for (int k = 1; k <= 10; k++) {
      due(12, "just what " + k + " show: the first of them", x.fewest(99 * k, 0), (1 << k) - 1);
      due(12, "how many", x.fewest(99 * k, 1), k);
      due(12, "one more than that", x.fewest(99 * k + 1, 1), k < 10 ? k + 1 : NONE);
    }
  }

  private static void fewestOfSeveral() {
    UnderWhitewash x = with(0, 0, 0, 0, 0, 10, 0, 1, 0, 30, 0, 2, 0, 20, 0, 3, 0, 30, 0, 4);
    due(12, "one that shows it is fewer than two that do", x.fewest(30, 0), 4);
    due(12, "of several the least, as a number: marks 2 and 3, not 2 and 4", x.fewest(50, 0), 12);
    due(12, "marks 2 and 4 alone", x.fewest(60, 0), 20);
    due(12, "of three the least", x.fewest(61, 0), 4 + 16 + 2);
    due(12, "the one that shows 0 is never needed", x.fewest(90, 0), 30);
    due(12, "more than all show", x.fewest(91, 0), NONE);
    UnderWhitewash y = with(0, 10, 0, 0);
    y.keep();
    y.writes(0, 99, 0, 0);
    due(12, "the second one alone", y.fewest(50, 0), 2);
    y.back();
    due(12, "one that is no more does not show", y.fewest(50, 0), NONE);
  }
}
