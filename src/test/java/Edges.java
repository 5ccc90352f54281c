import java.util.ArrayList;
import java.util.List;

/** What the tests of boundary cases share: objects to try a call on, and all that can be seen of one. */
final class Edges {
  static final int BAD = -1000000001, NO = -1000000002, FULL = -1000000003, NONE = -1000000005,
      NOTHING = -1000000011, KIND = -1000000012, INDEX = -1000000013, SIZE = -1000000014;
  static final int MIN = Integer.MIN_VALUE, MAX = Integer.MAX_VALUE;

  /** An object in some state, made anew each time by the same calls. */
  interface Scene { UnderWhitewash made(); }

  interface Call { int on(UnderWhitewash x); }

  /** A call with one argument left open. */
  interface CallWith { int on(UnderWhitewash x, int v); }

  private static int asked = 0, wrong = 0;

  private Edges() { }

  static void due(int promise, String said, int got, int want) {
    asked++;
    if (got != want) {
      wrong++;
      System.out.println("promise " + promise + ": " + said + ": answered " + got + ", due is " + want);
    }
  }

  static void end() {
    System.out.println(asked + " answers asked, " + wrong + " not as due");
    if (wrong != 0) System.exit(1);
  }

  /** The answer is as due, and all else is as if the call had not been made. */
  static void unchanged(int promise, String said, Scene scene, int want, Call call) {
    changedAs(promise, said, scene, want, call, scene);
  }

  /** The answer is as due, and all else is as in the other scene. */
  static void changedAs(int promise, String said, Scene scene, int want, Call call, Scene other) {
    UnderWhitewash x = scene.made();
    due(promise, said, call.on(x), want);
    List<Integer> is = whole(x), was = whole(other.made());
    int same = 0;
    while (same < is.size() && same < was.size() && is.get(same).equals(was.get(same))) same++;
    due(promise, said + ": the first thing seen that is otherwise", same, Math.max(is.size(), was.size()));
  }

  /** The first values beyond least and most, and the farthest ones, are BAD and change nothing. */
  static void outside(int promise, String said, Scene scene, int least, int most, CallWith call) {
    for (int v : new int[] {least - 1, most + 1, MIN, MAX})
      unchanged(promise, said + " with " + v, scene, BAD, x -> call.on(x, v));
  }

  // ---------------------------------------------------------------- all that can be seen

  /** All that can be seen of an object; it is of no use for anything else then. */
  static List<Integer> whole(UnderWhitewash x) {
    List<Integer> all = new ArrayList<>();
    for (int w = 0; w < 9; w++) all.add(x.count(w));
    walls(x, all);
    for (int s = 0; s < 5; s++) {
      all.add(x.ask(s, 0));
      all.add(x.rest(s, 1000003));
      for (int k = 0; k < 5; k++) all.add(x.item(s, k));
    }
    for (int s = 0; s < 4; s++) {
      all.add(x.lay(s, 2, s));
      for (int k = 0, v = 0; k <= 24 && v != INDEX && v != NOTHING; k++) all.add(v = x.item(s, k));
    }
    all.add(x.check(3));
    all.add(x.text());
    all.add(x.fee());
    all.add(x.fine(0));
    all.add(x.springs(7));
    for (int w = 0; w < 7; w++) all.add(x.walls(w));
    all.add(x.back());
    for (int w = 0; w < 9; w++) all.add(x.count(w));
    walls(x, all);
    return all;
  }

  private static void walls(UnderWhitewash x, List<Integer> all) {
    for (int m = 0; m < x.count(0); m++) {
      for (int w = 0; w < 6; w++) all.add(x.told(m, w));
      all.add(x.fine(m));
    }
    for (int c = 0; c < 6; c++) for (int w = 0; w < 2; w++) all.add(x.cellOf(c, w));
    for (int w = 0; w < 2; w++) all.add(x.walls(w));
    for (int t = 0; t < x.count(5); t++) for (int w = 0; w < 2; w++) all.add(x.textTold(t, w));
    for (int k = 0; k < 3; k++) all.add(x.why(k));
    all.add(x.fee());
  }

  // ---------------------------------------------------------------- scenes

  static UnderWhitewash fresh() { return new UnderWhitewash(); }

  /** Six marks, one of each kind; an image, from which much has gone on; sheet 3 is missing, slot 4 holds nothing. */
  static UnderWhitewash rich() {
    UnderWhitewash x = richWithoutRow();
    tellSprings(x, 3);
    return x;
  }

  /** As rich, but that no numbers wait. */
  static UnderWhitewash richWithoutRow() {
    UnderWhitewash x = richWithoutTape();
    put(x, "fine 3*d + i");
    return x;
  }

  /** As rich, but that no numbers wait and the tape is empty. */
  static UnderWhitewash richWithoutTape() {
    UnderWhitewash x = new UnderWhitewash();
    int[][] marks = {{0, 80, 10, 0}, {1, 70, 20, 0}, {2, 60, 30, 1}, {3, 99, 7, 0}, {4, 55, 12, 1}, {5, 44, 3, 2}};
    for (int[] m : marks) x.writes(m[0], m[1], m[2], m[3]);
    say(x, "breath i - d + n");
    say(x, "fee s*100 + g");
    x.rule(2, 40);
    x.springs(2);
    x.keep();
    say(x, "fine d - i");
    x.rule(0, 2);
    x.rule(1, 25);
    x.cell(1, 0, 28);
    x.cell(2, 1, 300);
    x.dig(2, 30);
    x.springs(5);
    x.sheet(0, 0, 3);
    for (int k = 0; k < 3; k++) x.mark(0, k, 31000 + k);
    x.sheet(1, 1, 4);
    for (int k = 0; k < 3; k++) x.mark(1, k, -90000 - k);
    x.mark(1, 3, NONE);
    x.sheet(2, 0, 5);
    x.lay(0, 1, 1);
    x.lay(1, 2, 0);
    x.lay(2, 2, 1);
    x.lay(3, 3, -123456789);
    return x;
  }

  /** The numbers that are due for the image come to wait; another object goes on from its image to find them. */
  private static void tellSprings(UnderWhitewash x, int n) {
    UnderWhitewash twin = richWithoutRow();
    twin.back();
    for (int k = 0; k < n; k++) {
      twin.springs(1);
      x.tell(twin.walls(0));
      x.tell(twin.walls(2));
    }
  }

  /** Ten marks, 14 texts, 96 bytes on the tape, 60 numbers that wait; an image of that. */
  static UnderWhitewash full() {
    UnderWhitewash x = fullWithoutTape();
    put(x, "fee " + "(".repeat(8) + "s" + ")".repeat(8) + "+g".repeat(37) + " ");
    return x;
  }

  /** As full, but that the tape is empty. */
  static UnderWhitewash fullWithoutTape() {
    UnderWhitewash x = new UnderWhitewash();
    x.seed(20);
    x.deal(10);
    for (int k = 0; k < 14; k++) say(x, (k % 2 == 0 ? "fee " : "fine ") + k);
    x.keep();
    for (int k = 0; k < 60; k++) x.tell(k);
    return x;
  }

  /** No spring is left. */
  static UnderWhitewash old() { return aged(9999); }

  static UnderWhitewash aged(int springs) {
    UnderWhitewash x = new UnderWhitewash();
    for (int left = springs; left > 0; left -= 100) x.springs(Math.min(100, left));
    return x;
  }

  /** The row becomes the tape. */
  static void put(UnderWhitewash x, String s) {
    x.trim(0);
    for (int k = 0; k < s.length(); k += 12) {
      int[] v = new int[3];
      for (int j = 0; j < 12; j++) v[j / 4] = v[j / 4] << 8 | (k + j < s.length() ? s.charAt(k + j) & 255 : 0);
      x.feed(v[0], v[1], v[2]);
    }
    x.trim(s.length());
  }

  /** The row is told as a text: what text() answers. */
  static int say(UnderWhitewash x, String s) {
    put(x, s);
    return x.text();
  }
}
