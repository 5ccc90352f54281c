/** Boundary cases of promises 41 to 45, each answer read off a sentence of the document. */
public final class RowsEdgesTest {
  private static final int BAD = Edges.BAD, NO = Edges.NO, FULL = Edges.FULL, NONE = Edges.NONE, MIN = Edges.MIN, MAX = Edges.MAX;

  public static void main(String[] args) {
    tell(); checkRefused(); checkedRow(); thirty(); lastSprings(); byTheImage(); keep(); keptAgain(); back(); textsOfTheImage(); fullImage(); count();
    Edges.end();
  }

  private static void due(int promise, String said, int got, int want) { Edges.due(promise, said, got, want); }

  private static void tellAll(UnderWhitewash x, int... row) {
    for (int v : row) x.tell(v);
  }

  // ---------------------------------------------------------------- 41

  private static void tell() {
    UnderWhitewash x = new UnderWhitewash();
    int[] any = {MIN, MAX, 0, -1, BAD, NONE};
    for (int k = 1; k <= 60; k++) due(41, "how many", x.tell(any[k % 6]), k);
    due(41, "60 wait", x.tell(0), FULL);
    Edges.unchanged(41, "60 wait", Edges::full, FULL, y -> y.tell(0));
    x.check(1);
    due(41, "the first again", x.tell(0), 1);
  }

  // ---------------------------------------------------------------- 42

  private static void checkRefused() {
    for (int n : new int[] {0, 31, MIN, MAX}) {
      Edges.changedAs(42, "n 1 .. 30: " + n, Edges::rich, BAD, x -> x.check(n), Edges::richWithoutRow);
      Edges.changedAs(42, "BAD stands ahead of NO: " + n, RowsEdgesTest::rowAlone, BAD, x -> x.check(n), Edges::fresh);
    }
    for (int n : new int[] {1, 30})
      Edges.changedAs(42, "there is no IMAGE", RowsEdgesTest::rowAlone, NO, x -> x.check(n), Edges::fresh);
    Edges.changedAs(42, "they are", Edges::rich, 0, x -> x.check(3), Edges::richWithoutRow);
    Edges.changedAs(42, "two too many", Edges::rich, 1 + 4, x -> x.check(2), Edges::richWithoutRow);
    Edges.changedAs(42, "two are missing", Edges::rich, 1 + 6, x -> x.check(4), Edges::richWithoutRow);
  }

  private static UnderWhitewash rowAlone() {
    UnderWhitewash x = new UnderWhitewash();
    tellAll(x, 1, 2, 3);
    return x;
  }

  /** SHOWN 1, 1, 1, 1, 1, 1, 2; DEPTH of all 11, 12, .. : one LEANT mark and one plain one that is never seen. */
  private static UnderWhitewash simple() {
    UnderWhitewash x = new UnderWhitewash();
    x.writes(5, 99, 5, 0);
    x.writes(0, 0, 5, 1);
    x.keep();
    return x;
  }

  private static void checkedRow() {
    UnderWhitewash x = simple();
    tellAll(x, 1, 11);
    due(42, "one spring", x.check(1), 0);
    due(42, "none wait then", x.count(6), 0);
    due(42, "all are missing", x.check(1), 1);
    tellAll(x, 1);
    due(42, "the second is missing", x.check(1), 2);
    tellAll(x, 1, 11, 1);
    due(42, "one too many", x.check(1), 3);
    tellAll(x, 0, 11);
    due(42, "the first is not", x.check(1), 1);
    tellAll(x, 1, 12);
    due(42, "the second is not", x.check(1), 2);
    tellAll(x, 11, 1);
    due(42, "SHOWN comes first", x.check(1), 1);
    int[] row = {1, 11, 1, 12, 1, 13, 1, 14, 1, 15, 1, 16, 2, 17};
    tellAll(x, row);
    due(42, "seven springs", x.check(7), 0);
    for (int wrong = 0; wrong < 14; wrong++) {
      for (int k = 0; k < 14; k++) x.tell(row[k] + (k == wrong ? 1 : 0));
      due(42, "the first that is not has so many ahead of it", x.check(7), 1 + wrong);
      for (int k = 0; k < wrong; k++) x.tell(row[k]);
      due(42, "the first that is missing", x.check(7), 1 + wrong);
    }
  }

  private static void thirty() {
    UnderWhitewash x = simple();
    for (int k = 1; k <= 30; k++) tellAll(x, 1 + (k - 1) / 6, 10 + k);
    due(42, "60 wait", x.count(6), 60);
    due(42, "thirty springs", x.check(30), 0);
    for (int k = 1; k <= 30; k++) tellAll(x, 1 + (k - 1) / 6, 10 + k + (k == 30 ? 1 : 0));
    due(42, "the last is not", x.check(30), 60);
    for (int k = 1; k <= 29; k++) tellAll(x, 1 + (k - 1) / 6, 10 + k);
    due(42, "two are missing", x.check(30), 59);
    for (int k = 1; k <= 30; k++) tellAll(x, 1 + (k - 1) / 6, 10 + k);
    due(42, "two too many", x.check(29), 59);
  }

  private static void lastSprings() {
    for (int left = 0; left <= 2; left++) {
      UnderWhitewash x = Edges.aged(9999 - left);
      x.writes(0, 0, 5, 1);
      x.keep();
      for (int n : new int[] {1, 2, 3, 30}) {
        int due = Math.min(n, left);
        for (int k = 1; k <= due; k++) tellAll(x, 0, 5 + k);
        due(42, "fewer, if THE SPRING would be above 9999: " + left + " are left, n " + n, x.check(n), 0);
        for (int k = 1; k <= due; k++) tellAll(x, 0, 5 + k);
        tellAll(x, 0);
        due(42, "one too many", x.check(n), 1 + 2 * due);
        for (int k = 1; k <= due; k++) tellAll(x, 0, 5 + k - k / due);
        due(42, "the last is not", x.check(n), due == 0 ? 0 : 2 * due);
      }
    }
    UnderWhitewash x = Edges.aged(9969);
    x.keep();
    for (int k = 0; k < 60; k++) x.tell(0);
    due(42, "just thirty are left", x.check(30), 0);
    x.springs(1);
    x.keep();
    for (int k = 0; k < 60; k++) x.tell(0);
    due(42, "29 are left: two too many", x.check(30), 59);
    x.springs(29);
    for (int k = 0; k < 58; k++) x.tell(0);
    due(42, "by THE IMAGE, though none is left now", x.check(30), 0);
  }

  private static void byTheImage() {
    UnderWhitewash x = simple();
    x.writes(5, 99, 500, 0);
    x.rule(1, 99);
    x.set(0, 2, 77);
    x.seed(5);
    x.springs(50);
    x.cell(0, 0, 0);
    tellAll(x, 1, 11, 1, 12);
    due(42, "by THE IMAGE, wherever all has gone", x.check(2), 0);
    x.keep();
    tellAll(x, 1, 11, 1, 12);
    due(42, "not by an IMAGE that was kept since", x.check(2) == 0 ? 1 : 0, 0);
  }

  // ---------------------------------------------------------------- 43, 44

  private static void keep() {
    for (int n = 0; n <= 10; n++) {
      UnderWhitewash x = new UnderWhitewash();
      if (n > 0) x.deal(n);
      due(43, "how many MARKS", x.keep(), n);
      due(44, "how many MARKS", x.back(), n);
      due(44, "again", x.back(), n);
    }
    Edges.Scene kept = () -> {
      UnderWhitewash x = Edges.full();
      x.keep();
      return x;
    };
    Edges.unchanged(43, "nothing else is changed", kept, 10, x -> x.keep());
    Edges.unchanged(44, "all is as it is", kept, 10, x -> x.back());
  }

  private static void keptAgain() {
    UnderWhitewash x = new UnderWhitewash();
    x.writes(0, 50, 5, 0);
    x.keep();
    x.writes(0, 60, 5, 0);
    x.rule(0, 9);
    due(43, "the newer one", x.keep(), 2);
    x.set(1, 1, 1);
    x.rule(0, 1);
    due(44, "is gone back to", x.back(), 2);
    due(44, "its MARKS", x.told(1, 1), 60);
    due(44, "its RULES", x.count(2), 9);
    x.set(1, 1, 2);
    x.springs(3);
    due(44, "again and again", x.back(), 2);
    due(44, "what is done since does not touch it", x.told(1, 1), 60);
    due(44, "THE SPRING", x.count(1), 0);
  }

  private static void back() {
    UnderWhitewash x = Edges.old();
    for (int k = 0; k < 10; k++) x.writes(5, 99, 9999, 5);
    for (int k = 0; k < 10; k++) x.set(k, 4, 9999);
    x.rule(0, 9);
    x.rule(1, 0);
    x.rule(2, 100);
    x.seed(MIN);
    for (int c = 0; c < 6; c++) {
      x.cell(c, 0, 99);
      x.cell(c, 1, 9999);
    }
    x.keep();
    for (int k = 0; k < 10; k++) {
      x.turns(k, 0);
      for (int w = 1; w <= 4; w++) x.set(k, w, 0);
    }
    for (int w = 0; w < 3; w++) x.rule(w, 1);
    for (int c = 0; c < 6; c++) for (int w = 0; w < 2; w++) x.cell(c, w, 0);
    x.seed(1);
    UnderWhitewash y = new UnderWhitewash();
    y.keep();
    for (int k = 0; k < 10; k++) y.writes(0, 1, 1, k % 6);
    y.springs(100);
    y.rule(0, 1);
    y.rule(1, 1);
    y.rule(2, 1);
    y.dig(0, 99);
    due(44, "none", y.back(), 0);
    int[] first = {0, 0, 3, 20, 0, 0, 0, 0, 1};
    for (int w = 0; w < 9; w++) due(44, "as at the first", y.count(w), first[w]);
    for (int w = 0; w < 7; w++) due(44, "as at the first", y.walls(w), 0);
    for (int c = 0; c < 6; c++) for (int w = 0; w < 4; w++) due(44, "as at the first", y.cellOf(c, w), w == 0 ? 60 : 0);
    due(44, "no MARK is left", y.told(0, 0), BAD);
    x.back();
    int[] last = {10, 9999, 9, 0, 100, 0, 0, 0, MIN};
    for (int w = 0; w < 9; w++) due(44, "the most of each", x.count(w), last[w]);
    int[] most = {5, 99, 9999, 5, 9999};
    for (int k = 0; k < 10; k++) for (int w = 0; w < 5; w++) due(44, "the most of each MARK", x.told(k, w), most[w]);
    for (int c = 0; c < 6; c++) {
      due(44, "WIDE 99", x.cellOf(c, 0), 99);
      due(44, "COATS 9999", x.cellOf(c, 1), 9999);
      due(44, "all in the last CELL", x.cellOf(c, 2), c == 5 ? 1023 : 0);
    }
    due(44, "none is left", x.springs(1), 0);
  }

  private static void textsOfTheImage() {
    UnderWhitewash x = new UnderWhitewash();
    x.writes(0, 50, 5, 0);
    Edges.say(x, "fee 10");
    x.keep();
    for (int k = 1; k < 14; k++) Edges.say(x, k % 3 == 0 ? "fee 20" : k % 3 == 1 ? "fine 30" : "breath 40");
    due(44, "14 TEXTS", x.count(5), 14);
    x.back();
    due(44, "one TEXT", x.count(5), 1);
    due(44, "the others are none", x.textTold(1, 0), BAD);
    due(44, "fee by the IMAGE's", x.fee(), 10);
    due(44, "fine without a TEXT", x.fine(0), 50);
    due(44, "breath without a TEXT", x.told(0, 5), 45);
    due(44, "why breath", x.why(0), NONE);
    due(44, "why fee", x.why(1), 0);
    due(44, "why fine", x.why(2), NONE);
    due(44, "there is room again", Edges.say(x, "breath 7"), 1);
    due(44, "the new one counts", x.told(0, 5), 7);
    x.back();
    Edges.say(x, "fine 9");
    due(44, "another one of that number", x.textTold(1, 0), 2);
    due(44, "breath without a TEXT again", x.told(0, 5), 45);
    tellAll(x, 1, 6);
    due(42, "THE IMAGE's springs are by THE IMAGE's TEXTS", x.check(1), 0);
  }

  private static void fullImage() {
    UnderWhitewash x = Edges.full();
    x.tell(1);
    x.springs(3);
    due(44, "ten MARKS", x.back(), 10);
    due(44, "14 TEXTS", x.count(5), 14);
    due(44, "60 numbers wait still", x.count(6), 60);
    due(44, "96 bytes on THE TAPE still", x.count(7), 96);
    due(44, "no room for a TEXT", x.text(), FULL);
    due(44, "no room for a MARK", x.writes(0, 0, 0, 0), FULL);
    UnderWhitewash y = Edges.rich();
    y.back();
    due(44, "SHEETS stay", y.sheet(3, -1, 0), 0);
    due(44, "a MISSING one is MISSING", y.reads(3), Edges.NOTHING);
    due(44, "a row stays", y.reads(1), 0);
    due(44, "SLOTS stay", y.rest(3, 1000000), -456789);
    due(44, "a SLOT's row stays", y.item(2, 2), -90002);
    due(44, "numbers wait still", y.check(3), 0);
    due(44, "THE TAPE stays", y.text(), 2);
  }

  // ---------------------------------------------------------------- 45

  private static void count() {
    Edges.outside(45, "what 0 .. 8", Edges::rich, 0, 8, (x, v) -> x.count(v));
    int[] full = {10, 0, 3, 20, 0, 14, 60, 96};
    UnderWhitewash x = Edges.full();
    for (int w = 0; w < 8; w++) due(45, "the most of each", x.count(w), full[w]);
    for (int w = 0; w < 9; w++) {
      int what = w;
      Edges.unchanged(45, "count changes nothing", Edges::rich, Edges.rich().count(w), y -> y.count(what));
    }
  }
}
