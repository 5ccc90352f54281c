/** Boundary cases of promises 17 to 26, each answer read off a sentence of the document. */
public final class ThoughtEdgesTest {
  private static final int BAD = Edges.BAD, NONE = Edges.NONE, NOTHING = Edges.NOTHING, MIN = Edges.MIN;

  public static void main(String[] args) {
    behind(); beyondTheLastSpring(); lost(); solid(); spoon(); place(); becomes(); eyes(); eyesByTheirSentence(); like(); likeOfSeveral();
    bySentence(Edges::rich); bySentence(Edges::full); bySentence(ThoughtEdgesTest::dealtAndOld); bySentence(ThoughtEdgesTest::dealtWithText);
    fee(); fine();
    Edges.end();
  }

  private static void due(int promise, String said, int got, int want) { Edges.due(promise, said, got, want); }

  private static UnderWhitewash with(int... ofEachFour) {
    UnderWhitewash x = new UnderWhitewash();
    for (int k = 0; k < ofEachFour.length; k += 4) x.writes(ofEachFour[k], ofEachFour[k + 1], ofEachFour[k + 2], ofEachFour[k + 3]);
    return x;
  }

  /** Ten marks by lot, spoons at every other spring, and one spring left. */
  private static UnderWhitewash dealtAndOld() {
    UnderWhitewash x = Edges.aged(9998);
    x.rule(2, 50);
    x.rule(1, 15);
    x.deal(10);
    for (int c = 0; c < 6; c++) {
      x.cell(c, 0, 5 + 9 * c);
      x.cell(c, 1, 20 * c);
    }
    x.dig(5, 90);
    return x;
  }

  /** A text by which a mark shows the better the more coats there are, and with which eyes do not fall evenly. */
  private static UnderWhitewash dealtWithText() {
    UnderWhitewash x = new UnderWhitewash();
    x.seed(99);
    x.deal(9);
    x.rule(2, 100);
    Edges.say(x, "breath i*3/2 - d/2 - (i>60)*40 + n*5 - c/3");
    return x;
  }

  // ---------------------------------------------------------------- 17

  private static void behind() {
    Edges.outside(17, "n 0 .. 100", Edges::rich, 0, 100, (x, v) -> x.behind(v, 0));
    Edges.outside(17, "what 0 .. 4, 5 and k of six MARKS", Edges::rich, 0, 10, (x, v) -> x.behind(1, v));
    Edges.outside(17, "what 0 .. 4, 5 and k of ten MARKS", Edges::full, 0, 14, (x, v) -> x.behind(1, v));
    Edges.outside(17, "what 0 .. 4, 5 and k of no MARKS", Edges::fresh, 0, 4, (x, v) -> x.behind(1, v));
    Edges.Scene[] scenes = {Edges::full, Edges::rich};
    for (Edges.Scene scene : scenes) for (int n : new int[] {0, 1, 100}) {
      UnderWhitewash then = scene.made();
      if (n > 0) then.springs(n);
      for (int w = 0; w < 5 + then.count(0); w++) {
        int what = w;
        int want = w < 5 ? then.walls(w) : then.told(w - 5, 2);
        Edges.unchanged(17, "behind " + n + ", what " + w, scene, want, x -> x.behind(n, what));
      }
    }
    due(17, "some were SEEN in one of these", Edges.rich().walls(4) > 0 ? 1 : 0, 1);
    UnderWhitewash x = with(0, 99, 9899, 0);
    due(17, "DEPTH 9999", x.behind(100, 5), 9999);
    x.set(0, 2, 9900);
    due(17, "DEPTH 9999 at most", x.behind(100, 5), 9999);
  }

  private static void beyondTheLastSpring() {
    Edges.Scene scene = () -> {
      UnderWhitewash x = Edges.old();
      for (int c = 0; c < 6; c++) x.writes(5, 99, 0, c);
      x.writes(0, 40, 5, 5);
      return x;
    };
    // The rest of 9999 by 6 is 3: the CELLS are 3, 4, 5, 0, ..., and mark 6 is SEEN in the third and the ninth spring.
    Edges.unchanged(17, "without the bound of THE SPRING", scene, 100 + 2, x -> x.behind(100, 0));
    Edges.unchanged(17, "SEEN of all", scene, 100 + 2, x -> x.behind(100, 4));
    Edges.unchanged(17, "DEPTH goes on", scene, 105, x -> x.behind(100, 11));
    Edges.unchanged(18, "40 less 5 less 14 less 2 is 19", scene, 14, x -> x.lost(6));
    Edges.unchanged(20, "one COAT fewer is enough then", scene, 1, x -> x.spoon(6, 14));
    Edges.unchanged(21, "the CELL of the next spring", scene, 3, x -> x.place(6, 1, 0));
    Edges.unchanged(21, "it and the LEANT one", scene, 2, x -> x.place(6, 1, 1));
    Edges.unchanged(22, "any KIND: the least", scene, 0, x -> x.becomes(6, 3, 0));
    Edges.unchanged(22, "one each spring, and it", scene, 4, x -> x.becomes(6, 3, 1));
    Edges.unchanged(23, "two in two springs", scene, 20, x -> x.eyes(2, 2));
    Edges.unchanged(23, "one in three: 40 less 8", scene, 32, x -> x.eyes(3, 1));
    Edges.Scene wide = () -> {
      UnderWhitewash x = Edges.old();
      x.cell(5, 0, 9);
      x.cell(5, 1, 0);
      return x;
    };
    Edges.unchanged(19, "9 times 3", wide, 27, x -> x.solid(5));
  }

  // ---------------------------------------------------------------- 18, 19

  private static void lost() {
    Edges.outside(18, "six MARKS", Edges::rich, 0, 5, (x, v) -> x.lost(v));
    Edges.outside(18, "ten MARKS", Edges::full, 0, 9, (x, v) -> x.lost(v));
    int[][] rows = {{20, 0, 1}, {19, 0, 0}, {21, 0, 2}, {20, 1, 0}, {0, 9999, 0}};
    for (int[] r : rows) due(18, "INK " + r[0] + ", DEPTH " + r[1], with(0, r[0], r[1], 5).lost(0), r[2]);
    int[][] far = {{199, 199}, {200, 200}, {201, NONE}, {999, NONE}};
    for (int[] f : far) {
      UnderWhitewash x = with(0, 99, 0, 5);
      x.rule(1, 1);
      Edges.say(x, "breath " + f[0] + " - d");
      due(18, "0 .. 200: it shows 0 first behind " + f[0], x.lost(0), f[1]);
    }
    UnderWhitewash x = with(0, 99, 9999, 5);
    x.rule(1, 0);
    due(18, "LEGIBLE for ever with EYES 0", x.lost(0), NONE);
    UnderWhitewash y = with(0, 60, 0, 0);
    Edges.say(y, "breath (c<5)*50+(c>8)*50");
    due(18, "first: though it is LEGIBLE again later", y.lost(0), 5);
    due(18, "it is", y.behind(30, 0) > 1 ? 1 : 0, 1);
  }

  private static void solid() {
    Edges.outside(19, "CELLS 0 .. 5", Edges::rich, 0, 5, (x, v) -> x.solid(v));
    int[][] rows = { // THICK, WIDE, COATS, SOLID
        {3, 60, 0, 180}, {3, 0, 0, 0}, {3, 1, 2, 1}, {3, 1, 0, 3}, {3, 66, 0, 198}, {3, 67, 1, 200}, {3, 67, 0, NONE}, {1, 99, 0, 99},
        {2, 99, 0, 198}, {2, 99, 1, 197}, {9, 22, 0, 198}, {9, 23, 7, 200}, {9, 23, 6, NONE}, {3, 99, 9999, 99}, {2, 1, 9999, NONE},
        {2, 1, 9998, NONE}, {2, 1, 9997, 1}, {9, 99, 9999, 99}};
    for (int[] r : rows) for (int c = 0; c < 6; c += 5) {
      UnderWhitewash x = new UnderWhitewash();
      x.rule(0, r[0]);
      x.cell(c, 0, r[1]);
      x.cell(c, 1, r[2]);
      due(19, "THICK " + r[0] + ", WIDE " + r[1] + ", COATS " + r[2], x.solid(c), r[3]);
    }
  }

  // ---------------------------------------------------------------- 20

  private static void spoon() {
    Edges.outside(20, "six MARKS", Edges::rich, 0, 5, (x, v) -> x.spoon(v, 5));
    Edges.outside(20, "ten MARKS", Edges::full, 0, 9, (x, v) -> x.spoon(v, 5));
    Edges.outside(20, "n 0 .. 60", Edges::rich, 0, 60, (x, v) -> x.spoon(0, v));
    int[][] rows = { // INK, DEPTH, n, SPOON of a MARK in CELL 5 that is SEEN nowhere but in springs 6, 12, ..
        {20, 0, 0, 0}, {20, 1, 0, 1}, {20, 99, 0, 99}, {20, 100, 0, NONE}, {19, 0, 0, NONE}, {21, 0, 1, 0}, {20, 0, 1, NONE}, {21, 99, 1, 99},
        {21, 100, 1, NONE}, {24, 98, 5, NONE}, {25, 98, 5, 98}, {25, 99, 5, 99}, {25, 100, 5, NONE}, {99, 9999, 0, NONE}, {99, 178, 0, 99}, {99, 179, 0, NONE}, {99, 19, 60, 10}, {99, 9, 60, 0}, {99, 10, 60, 1}, {90, 0, 60, 0},
        {89, 0, 60, NONE}, {90, 1, 60, 1}};
    for (int[] r : rows)
      due(20, "INK " + r[0] + ", DEPTH " + r[1] + ", n " + r[2], with(0, r[0], r[1], 5).spoon(0, r[2]), r[3]);
    UnderWhitewash x = with(5, 0, 9999, 0);
    due(20, "a LEANT one", x.spoon(0, 60), 0);
    x.rule(1, 21);
    due(20, "a LEANT one with EYES 21: by none", x.spoon(0, 60), NONE);
    UnderWhitewash y = with(2, 20, 50, 0);
    y.cell(0, 0, 29);
    // Dug by 3 the cell is 30 wide, and the ship sinks 1 less; dug by 47 it is 3 deep, plus 1: 20 - 4 is too little.
    y.rule(1, 10);
    due(20, "its CELL is WIDE again by that", y.spoon(0, 1), 41);
  }

  // ---------------------------------------------------------------- 21, 22

  private static void place() {
    Edges.outside(21, "six MARKS", Edges::rich, 0, 5, (x, v) -> x.place(v, 5, 0));
    Edges.outside(21, "ten MARKS", Edges::full, 0, 9, (x, v) -> x.place(v, 5, 1));
    Edges.outside(21, "n 1 .. 60", Edges::rich, 1, 60, (x, v) -> x.place(0, v, 0));
    Edges.outside(21, "what 0, 1", Edges::rich, 0, 1, (x, v) -> x.place(0, 5, v));
    UnderWhitewash x = with(0, 99, 0, 5);
    for (int n = 1; n <= 6; n++) {
      due(21, "of several the least, n " + n, x.place(0, n, 0), 0);
      due(21, "SHOWN then", x.place(0, n, 1), 1);
    }
    due(21, "the seventh spring is on CELL 0 again", x.place(0, 7, 1), 2);
    x.springs(5);
    due(21, "SHOWN of before", x.place(0, 1, 1), 1);
    due(21, "the next is CELL 5", x.place(0, 1, 0), 5);
    due(21, "the last that is best of all", x.place(0, 2, 0), 0);
    UnderWhitewash y = with(0, 0, 9999, 5);
    due(21, "never SHOWN: the least", y.place(0, 60, 0), 0);
    due(21, "never SHOWN", y.place(0, 60, 1), 0);
  }

  private static void becomes() {
    Edges.outside(22, "six MARKS", Edges::rich, 0, 5, (x, v) -> x.becomes(v, 5, 0));
    Edges.outside(22, "ten MARKS", Edges::full, 0, 9, (x, v) -> x.becomes(v, 5, 1));
    Edges.outside(22, "n 1 .. 60", Edges::rich, 1, 60, (x, v) -> x.becomes(0, v, 0));
    Edges.outside(22, "what 0, 1", Edges::rich, 0, 1, (x, v) -> x.becomes(0, 5, v));
    for (int kind = 0; kind < 6; kind++) {
      UnderWhitewash x = with(kind, 99, 0, 0);
      due(22, "all are SHOWN once: the least", x.becomes(0, 1, 0), 0);
      due(22, "SHOWN then", x.becomes(0, 1, 1), 1);
      due(22, "behind 60 springs a LEANT one", x.becomes(0, 60, 1), 10);
      x.rule(1, 99);
      due(22, "MARK shows 98, SCRATCH 99", x.becomes(0, 1, 0), 1);
      x.set(0, 1, 1);
      due(22, "none is SHOWN: the least", x.becomes(0, 60, 0), 0);
      due(22, "none", x.becomes(0, 60, 1), 0);
      x.rule(1, 20);
      due(22, "LEANT alone, the last KIND", x.becomes(0, 1, 0), 5);
    }
  }

  // ---------------------------------------------------------------- 23

  private static void eyes() {
    Edges.outside(23, "n 0 .. 60", Edges::rich, 0, 60, (x, v) -> x.eyes(v, 1));
    Edges.outside(23, "v 0 .. 99999", Edges::rich, 0, 99999, (x, v) -> x.eyes(5, v));
    Edges.unchanged(23, "with none SHOWN is 99999", Edges::rich, NONE, x -> x.eyes(60, 99999));
    Edges.unchanged(23, "SHOWN is 0 or more with any", Edges::rich, 99, x -> x.eyes(60, 0));
    UnderWhitewash x = with(0, 99, 0, 5, 1, 94, 0, 0, 1, 95, 0, 0, 0, 0, 99, 0);
    due(23, "99, the greatest", x.eyes(1, 1), 99);
    due(23, "98", x.eyes(1, 2), 98);
    due(23, "0, the least", x.eyes(1, 3), 0);
    due(23, "with none", x.eyes(1, 4), NONE);
    x.breathe(0);
    due(23, "as many as are SHOWN already", x.eyes(0, x.walls(0)), 99);
    due(23, "one more than that", x.eyes(0, x.walls(0) + 1), NONE);
  }

  private static void eyesByTheirSentence() {
    Edges.Scene[] scenes = {Edges::rich, Edges::full, ThoughtEdgesTest::dealtAndOld, ThoughtEdgesTest::dealtWithText};
    for (Edges.Scene scene : scenes) for (int n : new int[] {0, 1, 7, 60}) {
      UnderWhitewash x = scene.made(), y = scene.made();
      int most = 0;
      int[] shown = new int[100];
      for (int e = 0; e <= 99; e++) {
        x.rule(1, e);
        shown[e] = x.behind(n, 0);
        most = Math.max(most, shown[e]);
      }
      for (int v = Math.max(0, y.walls(0) - 1); v <= most + 1; v++) {
        int want = NONE;
        for (int e = 0; e <= 99; e++) if (shown[e] >= v) want = e;
        due(23, "the greatest EYES for " + n + ", " + v, y.eyes(n, v), want);
      }
    }
  }

  // ---------------------------------------------------------------- 18 to 22 by their sentences

  private static void bySentence(Edges.Scene scene) {
    int marks = scene.made().count(0);
    for (int mark = 0; mark < marks; mark++) {
      for (int n : new int[] {1, 2, 59, 60}) bestOf(scene, mark, n);
      lostOf(scene, mark);
      spoonOf(scene, mark, 0);
      spoonOf(scene, mark, 7);
    }
    for (int cell = 0; cell < 6; cell++) solidOf(scene, cell);
  }

  private static void bestOf(Edges.Scene scene, int mark, int n) {
    UnderWhitewash x = scene.made();
    int cell = 0, kind = 0, mostThere = -1, mostSo = -1;
    int wasIn = x.told(mark, 3), wasOf = x.told(mark, 0);
    for (int k = 0; k < 6; k++) {
      x.set(mark, 3, k);
      int there = x.behind(n, 0);
      x.set(mark, 3, wasIn);
      x.turns(mark, k);
      int so = x.behind(n, 0);
      x.turns(mark, wasOf);
      if (there > mostThere) { mostThere = there; cell = k; }
      if (so > mostSo) { mostSo = so; kind = k; }
    }
    due(21, "PLACE of " + mark + " for " + n, x.place(mark, n, 0), cell);
    due(21, "SHOWN then", x.place(mark, n, 1), mostThere);
    due(22, "BECOMES of " + mark + " for " + n, x.becomes(mark, n, 0), kind);
    due(22, "SHOWN then", x.becomes(mark, n, 1), mostSo);
  }

  /** By springs themselves, as far as they go (behind tells of none but the first 100). */
  private static void lostOf(Edges.Scene scene, int mark) {
    UnderWhitewash x = scene.made(), then = scene.made();
    int got = x.lost(mark);
    int left = Math.min(200, 9999 - then.count(1));
    for (int k = 0; k <= left; k++) {
      if ((then.walls(6) >> mark & 1) == 0) {
        due(18, "LOST of " + mark, got, k);
        return;
      }
      then.springs(1);
    }
    due(18, "LOST of " + mark + " not by " + left, got == NONE || got > left ? 1 : 0, 1);
  }

  private static void solidOf(Edges.Scene scene, int cell) {
    UnderWhitewash x = scene.made(), then = scene.made();
    int got = x.solid(cell);
    int left = Math.min(200, 9999 - then.count(1));
    for (int k = 0; k <= left; k++) {
      if (then.cellOf(cell, 0) == 0) {
        due(19, "SOLID of " + cell, got, k);
        return;
      }
      then.springs(1);
    }
    due(19, "SOLID of " + cell + " not by " + left, got == NONE || got > left ? 1 : 0, 1);
  }

  private static void spoonOf(Edges.Scene scene, int mark, int n) {
    if (n > 9999 - scene.made().count(1)) return;
    int want = NONE;
    for (int by = 99; by >= 0; by--) {
      UnderWhitewash x = scene.made();
      x.dig(x.told(mark, 3), by);
      if (n > 0) x.springs(n);
      if ((x.walls(6) >> mark & 1) == 1) want = by;
    }
    due(20, "SPOON of " + mark + " for " + n, scene.made().spoon(mark, n), want);
  }

  // ---------------------------------------------------------------- 24

  private static void like() {
    Edges.outside(24, "SHEETS 0 .. 3", Edges::rich, 0, 3, (x, v) -> x.like(v, 0));
    Edges.outside(24, "what 0, 1", Edges::rich, 0, 1, (x, v) -> x.like(1, v));
    Edges.unchanged(24, "sheet 3 is MISSING", Edges::rich, NOTHING, x -> x.like(3, 0));
    Edges.unchanged(24, "BAD stands ahead of NOTHING", Edges::rich, BAD, x -> x.like(3, 2));
    Edges.unchanged(24, "NOTHING stands ahead of NONE", Edges::fresh, NOTHING, x -> x.like(3, 1));
    Edges.Scene bare = () -> {
      UnderWhitewash x = new UnderWhitewash();
      x.sheet(3, 0, 24);
      return x;
    };
    Edges.unchanged(24, "there are no MARKS", bare, NONE, x -> x.like(3, 0));
    Edges.unchanged(24, "there are no MARKS, differences", bare, NONE, x -> x.like(3, 1));
    UnderWhitewash x = with(5, 0, 0, 0, 5, 0, 9999, 0);
    x.sheet(0, 1, 24);
    for (int k = 0; k < 24; k++) x.mark(0, k, -99999);
    due(24, "the most of the least", x.like(0, 1), 24 * 99999);
    for (int k = 0; k < 24; k++) x.mark(0, k, 99999);
    due(24, "the other one is nearer", x.like(0, 0), 1);
    due(24, "by so much", x.like(0, 1), 24 * 90000);
    x.sheet(1, 0, 24);
    for (int k = 0; k < 24; k++) x.mark(1, k, -32768);
    due(24, "shorts", x.like(1, 1), 24 * 32768);
    UnderWhitewash ten = new UnderWhitewash();
    for (int k = 0; k < 10; k++) ten.writes(5, 0, 100 - k, 0);
    ten.sheet(0, 0, 2);
    due(24, "the last of ten", ten.like(0, 0), 9);
    due(24, "91 and 91", ten.like(0, 1), 182);
    Edges.unchanged(24, "like changes nothing", Edges::rich, Edges.rich().like(1, 0), y -> y.like(1, 0));
  }

  private static void likeOfSeveral() {
    UnderWhitewash x = with(0, 0, 5, 0, 0, 0, 5, 1, 0, 0, 7, 1);
    x.sheet(0, 1, 0);
    due(24, "no places: the least", x.like(0, 0), 0);
    due(24, "no differences", x.like(0, 1), 0);
    x.sheet(0, 1, 2);
    x.mark(0, 0, Edges.NONE);
    x.mark(0, 1, Edges.NONE);
    due(24, "no numbers: the least", x.like(0, 0), 0);
    due(24, "no differences", x.like(0, 1), 0);
    x.mark(0, 1, 7);
    due(24, "6, 6, 8 behind one spring, and 7: the least", x.like(0, 0), 0);
    due(24, "signs left out", x.like(0, 1), 1);
    x.mark(0, 0, 7);
    due(24, "place 0 is told of now", x.like(0, 0), 2);
    due(24, "0 and 1", x.like(0, 1), 1);
    UnderWhitewash old = Edges.old();
    old.writes(0, 0, 5, 0);
    old.sheet(0, 0, 24);
    for (int k = 0; k < 24; k++) old.mark(0, k, 5 + k);
    due(24, "without the bound of THE SPRING", old.like(0, 1), 0);
  }

  // ---------------------------------------------------------------- 25, 26

  private static void fee() {
    UnderWhitewash x = new UnderWhitewash();
    due(25, "without a TEXT: SHOWN", x.fee(), 0);
    x.writes(5, 0, 0, 0);
    x.cell(1, 1, 50);
    x.breathe(0);
    x.dig(1, 50);
    due(25, "without a TEXT: SHOWN", x.fee(), 1);
    String[] texts = {"fee s", "fee g", "fee g/(s-1)", "fee (0-g)/3", "fee 0-8*4096*4096*16", "fee (0-8*4096*4096*16)/(0-s)",
        "fee 8*4096*4096*16-1", "fee (8*4096*4096*16-1)+s", "fee g>49", "fee g>50", "fee g=50", "fee g<51", "fee g<50"};
    int[] want = {1, 50, 0, -16, MIN, MIN, Edges.MAX, MIN, 1, 0, 1, 1, 0};
    for (int k = 0; k < texts.length; k++) {
      Edges.say(x, texts[k]);
      due(25, "'" + texts[k] + "'", x.fee(), want[k]);
    }
    Edges.unchanged(25, "fee changes nothing", Edges::rich, Edges.rich().fee(), y -> y.fee());
  }

  private static void fine() {
    Edges.outside(26, "six MARKS", Edges::rich, 0, 5, (x, v) -> x.fine(v));
    Edges.outside(26, "ten MARKS", Edges::full, 0, 9, (x, v) -> x.fine(v));
    UnderWhitewash x = with(0, 0, 0, 0, 0, 99, 9999, 5);
    due(26, "without a TEXT: INK", x.fine(0), 0);
    due(26, "without a TEXT: INK", x.fine(1), 99);
    Edges.say(x, "breath 5");
    Edges.say(x, "fee 6");
    due(26, "without a TEXT of its own", x.fine(1), 99);
    Edges.say(x, "fine d/i");
    due(26, "/ is 0 by 0", x.fine(0), 0);
    due(26, "9999 / 99", x.fine(1), 101);
    Edges.say(x, "fine (i-d)/2");
    due(26, "cuts towards 0, and is not held", x.fine(1), -4950);
    Edges.say(x, "fine (i-d-1)/2");
    due(26, "cuts towards 0", x.fine(1), -4950);
  }
}
