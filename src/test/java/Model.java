import java.util.ArrayList;
import java.util.Arrays;
import java.util.List;

/**
 * The document once more, written to be easy to hold against its words and in another way than the class:
 * kinds are classes, all that is thought is run on deep copies, every possibility is tried,
 * and texts are read by an automaton over words and signs.
 */
final class Model {
  static final int BAD = -1000000001, NO = -1000000002, FULL = -1000000003, NONE = -1000000005,
      NOTHING = -1000000011, KIND = -1000000012, INDEX = -1000000013, SIZE = -1000000014;

  // ---------------------------------------------------------------- kinds

  static class Mark {
    int ink, depth, seen, cell;

    int number() { return 0; }
    int shows(World w) { return w.plain(this); }
    int sinks(World w) { return 1; }
    int fades() { return 1; }
    int worth() { return ink; }

    static Mark of(int kind) {
      switch (kind) {
        case 0: return new Mark();
        case 1: return new Scratch();
        case 2: return new Ship();
        case 3: return new Tally();
        case 4: return new Verse();
        default: return new Leant();
      }
    }

    Mark as(int kind) {
      Mark m = of(kind);
      m.ink = ink; m.depth = depth; m.seen = seen; m.cell = cell;
      return m;
    }

    boolean isA(int kind) { return of(kind).getClass().isInstance(this); }
  }

  static class Scratch extends Mark {
    @Override int number() { return 1; }
    @Override int shows(World w) { return Math.min(99, super.shows(w) + 5); }
    @Override int worth() { return super.worth() + seen; }
  }

  static class Ship extends Mark {
    @Override int number() { return 2; }
    @Override int shows(World w) {
      int others = 0;
      for (Mark m : w.marks) if (m != this && m.cell == cell) others++;
      return Math.min(99, super.shows(w) + 2 * others);
    }
    @Override int sinks(World w) { return super.sinks(w) + (w.wide[cell] < 30 ? 1 : 0); }
    @Override int fades() { return 0; }
    @Override int worth() { return 99 - ink; }
  }

  static class Tally extends Scratch {
    @Override int number() { return 3; }
    @Override int shows(World w) { return super.shows(w) / 2; }
    @Override int sinks(World w) { return 2 * super.sinks(w); }
    @Override int fades() { return super.fades() + 2; }
    @Override int worth() { return super.worth() / 2; }
  }

  static class Verse extends Ship {
    @Override int number() { return 4; }
    @Override int shows(World w) { return Math.max(0, super.shows(w) - 10); }
    @Override int sinks(World w) { return super.sinks(w) + 1; }
    @Override int fades() { return super.fades() + 3; }
    @Override int worth() { return super.worth() + 7; }
  }

  static class Leant extends Mark {
    @Override int number() { return 5; }
    @Override int shows(World w) { return 20; }
    @Override int sinks(World w) { return 0; }
    @Override int fades() { return 5; }
    @Override int worth() { return seen; }
  }

  // ---------------------------------------------------------------- what an image keeps

  static final class World {
    int[] wide = {60, 60, 60, 60, 60, 60}, coats = new int[6];
    List<Mark> marks = new ArrayList<>();
    int thick = 3, eyes = 20, spoons = 0, shown, dug, spring, z = 1;
    List<Text> texts = new ArrayList<>();

    World copy() {
      World w = new World();
      w.wide = wide.clone(); w.coats = coats.clone();
      for (Mark m : marks) w.marks.add(m.as(m.number()));
      w.thick = thick; w.eyes = eyes; w.spoons = spoons; w.shown = shown; w.dug = dug; w.spring = spring; w.z = z;
      w.texts = new ArrayList<>(texts);
      return w;
    }

    int why(int key) {
      for (int k = texts.size() - 1; k >= 0; k--) if (texts.get(k).key == key) return k;
      return NONE;
    }

    int plain(Mark m) {
      int t = why(0);
      int n = 0;
      for (Mark o : marks) if (o.cell == m.cell) n++;
      int v = t == NONE ? m.ink - m.depth : texts.get(t).value(new int[] {m.ink, m.depth, coats[m.cell], n});
      return Math.max(0, Math.min(99, v));
    }

    boolean legible(Mark m) { return m.shows(this) >= eyes; }

    int draw() { z = z * 1103515245 + 12345; return z >>> 8; }

    void coat(int c) {
      coats[c] = Math.min(9999, coats[c] + 1);
      for (Mark m : marks) if (m.cell == c) m.depth = Math.min(9999, m.depth + m.sinks(this));
      if (coats[c] % thick == 0) wide[c] = Math.max(0, wide[c] - 1);
    }

    int breath(int c) {
      List<Mark> seenNow = new ArrayList<>();
      for (Mark m : marks) if (m.cell == c && legible(m)) seenNow.add(m);
      for (Mark m : seenNow) {
        m.seen = Math.min(9999, m.seen + 1);
        m.ink = Math.max(0, m.ink - m.fades());
      }
      shown = Math.min(99999, shown + seenNow.size());
      return seenNow.size();
    }

    int digging(int c, int n) {
      int was = coats[c];
      coats[c] = Math.max(0, was - n);
      dug = Math.min(99999, dug + was - coats[c]);
      wide[c] = Math.min(99, wide[c] + n / thick);
      for (Mark m : marks) if (m.cell == c) m.depth = Math.max(0, m.depth - n);
      return was - coats[c];
    }

    World oneSpring() {
      for (int c = 0; c < 6; c++) coat(c);
      breath(spring % 6);
      if (draw() % 100 < spoons) {
        int c = draw() % 6;
        int n = draw() % 10;
        digging(c, n);
      }
      spring++;
      return this;
    }

    World behind(int n) {
      World w = copy();
      for (int k = 0; k < n; k++) w.oneSpring();
      return w;
    }

    int total(int what) {
      int sum = 0;
      for (Mark m : marks) sum += what == 2 ? m.depth : what == 3 ? m.ink : m.seen;
      return what == 0 ? shown : what == 1 ? dug : sum;
    }
  }

  // ---------------------------------------------------------------- texts

  static final class Text {
    int key, leaves;
    List<String> words = new ArrayList<>();

    static String names(int key) { return key == 0 ? "idcn" : key == 1 ? "sg" : "id"; }

    static int rank(String op) {
      return op.equals("!") ? 6 : "*/".contains(op) ? 5 : "+-".contains(op) ? 4 : "<=>".contains(op) ? 3 : op.equals("&") ? 2 : op.equals("|") ? 1 : 0;
    }

    /** Two stacks; words is known to be without a fault. */
    int value(int[] given) {
      List<Integer> values = new ArrayList<>();
      List<String> ops = new ArrayList<>();
      for (String w : words) {
        char c = w.charAt(0);
        if (Character.isDigit(c)) values.add(Integer.parseInt(w));
        else if (c >= 'a' && c <= 'z') values.add(given[names(key).indexOf(c)]);
        else if (w.equals("(") || w.equals("!")) ops.add(w);
        else if (w.equals(")")) {
          while (!ops.get(ops.size() - 1).equals("(")) work(values, ops);
          ops.remove(ops.size() - 1);
        } else {
          while (!ops.isEmpty() && rank(ops.get(ops.size() - 1)) >= rank(w)) work(values, ops);
          ops.add(w);
        }
      }
      while (!ops.isEmpty()) work(values, ops);
      return values.get(0);
    }

    private static void work(List<Integer> values, List<String> ops) {
      String op = ops.remove(ops.size() - 1);
      int b = values.remove(values.size() - 1);
      if (op.equals("!")) { values.add(b == 0 ? 1 : 0); return; }
      int a = values.remove(values.size() - 1);
      int v;
      switch (op.charAt(0)) {
        case '+': v = a + b; break;
        case '-': v = a - b; break;
        case '*': v = a * b; break;
        case '/': v = b == 0 ? 0 : (int) ((long) a / b); break;
        case '<': v = a < b ? 1 : 0; break;
        case '=': v = a == b ? 1 : 0; break;
        case '>': v = a > b ? 1 : 0; break;
        case '&': v = a != 0 && b != 0 ? 1 : 0; break;
        default: v = a != 0 || b != 0 ? 1 : 0;
      }
      values.add(v);
    }

    /** -1: it is a text now; else the place of the fault. */
    int read(String tape) {
      boolean needKey = true, needPiece = true;
      List<Boolean> compared = new ArrayList<>(List.of(false));
      List<Integer> notsOutside = new ArrayList<>(List.of(0));
      int nots = 0;
      int at = 0;
      boolean wordRightAhead = false;
      while (at < tape.length()) {
        if (tape.charAt(at) == ' ') { at++; wordRightAhead = false; continue; }
        String w = wordAt(tape, at);
        boolean word = w.matches("[a-z]+|[0-9]+");
        if (word && wordRightAhead) return at;
        wordRightAhead = word;
        int top = compared.size() - 1;
        if (needKey) {
          key = List.of("breath", "fee", "fine").indexOf(w);
          if (key < 0) return at;
          needKey = false;
          at += w.length();
          continue;
        }
        if (needPiece) {
          if (w.matches("[0-9]{1,4}") || w.matches("[a-z]") && names(key).contains(w)) {
            needPiece = false;
            nots = notsOutside.get(top);
            leaves++;
          } else if (w.equals("!")) {
            if (nots == 8) return at;
            nots++;
          } else if (w.equals("(")) {
            if (top == 8) return at;
            compared.add(false);
            notsOutside.add(nots);
          } else return at;
        } else if (w.equals(")")) {
          if (top == 0) return at;
          compared.remove(top);
          notsOutside.remove(top);
          nots = notsOutside.get(top - 1);
        } else {
          int rank = rank(w);
          if (rank < 1 || rank > 5 || word) return at;
          if (rank == 3 && compared.get(top)) return at;
          if (rank == 3) compared.set(top, true);
          if (rank < 3) compared.set(top, false);
          needPiece = true;
        }
        words.add(w);
        at += w.length();
      }
      return needPiece || compared.size() > 1 ? tape.length() : -1;
    }

    private static String wordAt(String tape, int at) {
      int to = at + 1;
      char c = tape.charAt(at);
      if (c >= 'a' && c <= 'z') while (to < tape.length() && tape.charAt(to) >= 'a' && tape.charAt(to) <= 'z') to++;
      if (c >= '0' && c <= '9') while (to < tape.length() && tape.charAt(to) >= '0' && tape.charAt(to) <= '9') to++;
      return tape.substring(at, to);
    }
  }

  // ---------------------------------------------------------------- the object

  World w = new World(), image;
  String tape = "";
  Object[] sheets = new Object[4];
  Object[] slots = new Object[5];
  List<Integer> waiting = new ArrayList<>();

  private boolean noMark(int m) { return m < 0 || m >= w.marks.size(); }
  private static boolean out(int v, int lo, int hi) { return v < lo || v > hi; }

  public int writes(int kind, int ink, int depth, int cell) {
    if (out(kind, 0, 5) || out(ink, 0, 99) || out(depth, 0, 9999) || out(cell, 0, 5)) return BAD;
    if (w.marks.size() == 10) return FULL;
    Mark m = Mark.of(kind);
    m.ink = ink; m.depth = depth; m.cell = cell;
    w.marks.add(m);
    return w.marks.size() - 1;
  }

  public int told(int mark, int what) {
    if (noMark(mark) || out(what, 0, 8)) return BAD;
    Mark m = w.marks.get(mark);
    return new int[] {m.number(), m.ink, m.depth, m.cell, m.seen, m.shows(w), m.sinks(w), m.fades(), m.worth()}[what];
  }

  public int as(int mark, int kind) {
    if (noMark(mark) || out(kind, 0, 5)) return BAD;
    return w.marks.get(mark).isA(kind) ? w.marks.get(mark).ink : KIND;
  }

  public int turns(int mark, int kind) {
    if (noMark(mark) || out(kind, 0, 5)) return BAD;
    Mark m = w.marks.get(mark);
    w.marks.set(mark, m.as(kind));
    return m.number();
  }

  public int set(int mark, int what, int v) {
    if (noMark(mark) || out(what, 1, 4) || out(v, 0, new int[] {99, 9999, 5, 9999}[what - 1])) return BAD;
    Mark m = w.marks.get(mark);
    int was = told(mark, what);
    if (what == 1) m.ink = v;
    if (what == 2) m.depth = v;
    if (what == 3) m.cell = v;
    if (what == 4) m.seen = v;
    return was;
  }

  public int cell(int cell, int what, int v) {
    if (out(cell, 0, 5) || out(what, 0, 1) || out(v, 0, what == 0 ? 99 : 9999)) return BAD;
    int[] row = what == 0 ? w.wide : w.coats;
    int was = row[cell];
    row[cell] = v;
    return was;
  }

  public int cellOf(int cell, int what) {
    if (out(cell, 0, 5) || out(what, 0, 3)) return BAD;
    int set = 0, sum = 0;
    for (int k = 0; k < w.marks.size(); k++) if (w.marks.get(k).cell == cell) {
      set |= 1 << k;
      sum += w.marks.get(k).shows(w);
    }
    return new int[] {w.wide[cell], w.coats[cell], set, sum}[what];
  }

  public int rule(int what, int v) {
    if (out(what, 0, 2) || out(v, what == 0 ? 1 : 0, new int[] {9, 99, 100}[what])) return BAD;
    int was = new int[] {w.thick, w.eyes, w.spoons}[what];
    if (what == 0) w.thick = v;
    if (what == 1) w.eyes = v;
    if (what == 2) w.spoons = v;
    return was;
  }

  public int deal(int n) {
    if (out(n, 1, 10)) return BAD;
    int came = 0;
    while (came < n && w.marks.size() < 10) {
      Mark m = Mark.of(w.draw() % 6);
      m.ink = w.draw() % 70 + 30;
      m.depth = w.draw() % 40;
      m.cell = w.draw() % 6;
      w.marks.add(m);
      came++;
    }
    return came;
  }

  public int seed(int v) { int was = w.z; w.z = v; return was; }

  public int fewest(int v, int what) {
    if (out(v, 0, 999) || out(what, 0, 1)) return BAD;
    for (int many = 0; many <= w.marks.size(); many++)
      for (int set = 0; set < 1 << w.marks.size(); set++) {
        int sum = 0;
        for (int k = 0; k < 10; k++) if ((set >> k) % 2 == 1) sum += w.marks.get(k).shows(w);
        if (Integer.bitCount(set) == many && sum >= v) return what == 0 ? set : many;
      }
    return NONE;
  }

  public int breathe(int cell) { return out(cell, 0, 5) ? BAD : w.breath(cell); }

  public int dig(int cell, int n) { return out(cell, 0, 5) || out(n, 0, 99) ? BAD : w.digging(cell, n); }

  public int springs(int n) {
    if (out(n, 1, 100)) return BAD;
    int was = w.shown;
    for (int k = 0; k < n && w.spring < 9999; k++) w.oneSpring();
    return w.shown - was;
  }

  public int walls(int what) {
    if (out(what, 0, 6)) return BAD;
    if (what < 5) return w.total(what);
    int least = Arrays.stream(w.wide).min().getAsInt();
    if (what == 5) for (int c = 0; ; c++) if (w.wide[c] == least) return c;
    int set = 0;
    for (int k = 0; k < w.marks.size(); k++) if (w.legible(w.marks.get(k))) set |= 1 << k;
    return set;
  }

  public int behind(int n, int what) {
    if (out(n, 0, 100) || what < 0 || what >= 5 && noMark(what - 5)) return BAD;
    World t = w.behind(n);
    return what < 5 ? t.total(what) : t.marks.get(what - 5).depth;
  }

  public int lost(int mark) {
    if (noMark(mark)) return BAD;
    World t = w.copy();
    for (int k = 0; k <= 200; k++, t.oneSpring()) if (!t.legible(t.marks.get(mark))) return k;
    return NONE;
  }

  public int solid(int cell) {
    if (out(cell, 0, 5)) return BAD;
    World t = w.copy();
    for (int k = 0; k <= 200; k++, t.oneSpring()) if (t.wide[cell] == 0) return k;
    return NONE;
  }

  public int spoon(int mark, int n) {
    if (noMark(mark) || out(n, 0, 60)) return BAD;
    for (int by = 0; by <= 99; by++) {
      World t = w.copy();
      t.digging(t.marks.get(mark).cell, by);
      t = t.behind(n);
      if (t.legible(t.marks.get(mark))) return by;
    }
    return NONE;
  }

  public int place(int mark, int n, int what) {
    if (noMark(mark) || out(n, 1, 60) || out(what, 0, 1)) return BAD;
    int[] shown = new int[6];
    for (int c = 0; c < 6; c++) {
      World t = w.copy();
      t.marks.get(mark).cell = c;
      shown[c] = t.behind(n).shown;
    }
    return what == 0 ? firstMost(shown) : shown[firstMost(shown)];
  }

  public int becomes(int mark, int n, int what) {
    if (noMark(mark) || out(n, 1, 60) || out(what, 0, 1)) return BAD;
    int[] shown = new int[6];
    for (int k = 0; k < 6; k++) {
      World t = w.copy();
      t.marks.set(mark, t.marks.get(mark).as(k));
      shown[k] = t.behind(n).shown;
    }
    return what == 0 ? firstMost(shown) : shown[firstMost(shown)];
  }

  private static int firstMost(int[] row) {
    int most = Arrays.stream(row).max().getAsInt();
    for (int k = 0; ; k++) if (row[k] == most) return k;
  }

  public int eyes(int n, int v) {
    if (out(n, 0, 60) || out(v, 0, 99999)) return BAD;
    for (int e = 99; e >= 0; e--) {
      World t = w.copy();
      t.eyes = e;
      if (t.behind(n).shown >= v) return e;
    }
    return NONE;
  }

  public int like(int sheet, int what) {
    if (out(sheet, 0, 3) || out(what, 0, 1)) return BAD;
    if (sheets[sheet] == null) return NOTHING;
    if (w.marks.isEmpty()) return NONE;
    int best = -1;
    long least = Long.MAX_VALUE;
    for (int m = 0; m < w.marks.size(); m++) {
      long sum = 0;
      for (int k = 0; k < size(sheets[sheet]); k++)
        if (at(sheets[sheet], k) != null) sum += Math.abs(w.behind(k).marks.get(m).depth - at(sheets[sheet], k));
      if (sum < least) { least = sum; best = m; }
    }
    return what == 0 ? best : (int) least;
  }

  public int fee() {
    int t = w.why(1);
    return t == NONE ? w.shown : w.texts.get(t).value(new int[] {w.shown, w.dug});
  }

  public int fine(int mark) {
    if (noMark(mark)) return BAD;
    int t = w.why(2);
    Mark m = w.marks.get(mark);
    return t == NONE ? m.ink : w.texts.get(t).value(new int[] {m.ink, m.depth});
  }

  public int feed(int a, int b, int c) {
    if (tape.length() + 12 > 96) return FULL;
    for (int v : new int[] {a, b, c}) for (int s = 24; s >= 0; s -= 8) tape += (char) (v >> s & 0xff);
    return tape.length();
  }

  public int trim(int n) {
    if (out(n, 0, tape.length())) return BAD;
    tape = tape.substring(0, n);
    return n;
  }

  public int text() {
    Text t = new Text();
    int fault = t.read(tape);
    tape = "";
    if (fault >= 0) return -100 - fault;
    if (w.texts.size() == 14) return FULL;
    w.texts.add(t);
    return w.texts.size() - 1;
  }

  public int textTold(int text, int what) {
    if (out(text, 0, w.texts.size() - 1) || out(what, 0, 1)) return BAD;
    return what == 0 ? w.texts.get(text).key : w.texts.get(text).leaves;
  }

  public int why(int key) { return out(key, 0, 2) ? BAD : w.why(key); }

  private static int size(Object row) { return row instanceof short[] ? ((short[]) row).length : ((float[]) row).length; }

  /** null: no number. */
  private static Integer at(Object row, int k) {
    if (row instanceof short[]) return (int) ((short[]) row)[k];
    float f = ((float[]) row)[k];
    return Float.isNaN(f) ? null : (Integer) (int) f;
  }

  public int sheet(int sheet, int sort, int n) {
    if (out(sheet, 0, 3) || out(sort, -1, 1)) return BAD;
    if (sort == -1) { sheets[sheet] = null; return 0; }
    if (n > 24) return BAD;
    if (n < 0) return SIZE;
    sheets[sheet] = sort == 0 ? new short[n] : new float[n];
    return n;
  }

  public int mark(int sheet, int place, int v) {
    if (out(sheet, 0, 3)) return BAD;
    if (sheets[sheet] == null) return NOTHING;
    if (out(place, 0, size(sheets[sheet]) - 1)) return INDEX;
    if (sheets[sheet] instanceof short[]) {
      if (v == NONE) return KIND;
      ((short[]) sheets[sheet])[place] = (short) v;
      return 1;
    }
    if (v != NONE && out(v, -99999, 99999)) return BAD;
    ((float[]) sheets[sheet])[place] = v == NONE ? Float.NaN : v;
    return 1;
  }

  public int pour(int sheet) {
    if (out(sheet, 0, 3)) return BAD;
    if (sheets[sheet] == null) return NOTHING;
    int n = 0;
    for (int k = 0; k < w.marks.size(); k++) {
      Mark m = w.marks.get(k);
      int was = m.ink;
      if (k < size(sheets[sheet]) && at(sheets[sheet], k) != null) m.ink = Math.max(0, Math.min(99, at(sheets[sheet], k)));
      if (m.ink != was) n++;
    }
    return n;
  }

  public int reads(int sheet) {
    if (out(sheet, 0, 3)) return BAD;
    if (sheets[sheet] == null) return NOTHING;
    for (int k = 0; k < size(sheets[sheet]); k++) {
      Integer v = at(sheets[sheet], k);
      if (v == null) continue;
      if (noMark(k) || w.marks.get(k).cell != v) return k;
    }
    return NONE;
  }

  @SuppressWarnings("SuspiciousSystemArraycopy")
  public int copy(int from, int place, int to, int at, int many) {
    if (out(from, 0, 3) || out(to, 0, 3)) return BAD;
    try {
      System.arraycopy(sheets[from], place, sheets[to], at, many);
      return many;
    } catch (NullPointerException e) {
      return NOTHING;
    } catch (ArrayStoreException e) {
      return KIND;
    } catch (IndexOutOfBoundsException e) {
      return INDEX;
    }
  }

  public int lay(int slot, int thing, int k) {
    if (out(slot, 0, 4) || out(thing, 0, 3) || thing == 1 && noMark(k) || thing == 2 && out(k, 0, 3)) return BAD;
    if (thing == 2 && sheets[k] == null) return NOTHING;
    Object was = slots[slot];
    if (thing == 0) slots[slot] = null;
    if (thing == 1) slots[slot] = w.marks.get(k).as(w.marks.get(k).number());
    if (thing == 2) slots[slot] = sheets[k] instanceof short[] ? ((short[]) sheets[k]).clone() : ((float[]) sheets[k]).clone();
    if (thing == 3) slots[slot] = k;
    return was == null ? 0 : was instanceof Mark ? 1 : was instanceof Integer ? 3 : 2;
  }

  public int ask(int slot, int kind) {
    if (out(slot, 0, 4) || out(kind, 0, 5)) return BAD;
    if (slots[slot] == null) return NOTHING;
    if (!(slots[slot] instanceof Mark) || !((Mark) slots[slot]).isA(kind)) return KIND;
    return ((Mark) slots[slot]).worth();
  }

  public int item(int slot, int place) {
    if (out(slot, 0, 4)) return BAD;
    Object row = slots[slot];
    if (row == null) return NOTHING;
    if (!(row instanceof short[] || row instanceof float[])) return KIND;
    if (out(place, 0, size(row) - 1)) return INDEX;
    return at(row, place) == null ? KIND : at(row, place);
  }

  public int rest(int slot, int n) {
    if (out(slot, 0, 4)) return BAD;
    if (slots[slot] == null) return NOTHING;
    if (!(slots[slot] instanceof Integer)) return KIND;
    return n == 0 ? NO : (int) ((long) (Integer) slots[slot] % n);
  }

  public int tell(int v) {
    if (waiting.size() == 60) return FULL;
    waiting.add(v);
    return waiting.size();
  }

  public int check(int n) {
    List<Integer> told = waiting;
    waiting = new ArrayList<>();
    if (out(n, 1, 30)) return BAD;
    if (image == null) return NO;
    List<Integer> due = new ArrayList<>();
    World t = image.copy();
    for (int k = 0; k < n && t.spring < 9999; k++) {
      t.oneSpring();
      due.add(t.shown);
      due.add(t.total(2));
    }
    if (told.equals(due)) return 0;
    int right = 0;
    while (right < told.size() && right < due.size() && told.get(right).equals(due.get(right))) right++;
    return 1 + right;
  }

  public int keep() { image = w.copy(); return image.marks.size(); }

  public int back() {
    if (image == null) return NO;
    w = image.copy();
    return w.marks.size();
  }

  public int count(int what) {
    if (out(what, 0, 8)) return BAD;
    return new int[] {w.marks.size(), w.spring, w.thick, w.eyes, w.spoons, w.texts.size(), waiting.size(), tape.length(), w.z}[what];
  }
}
