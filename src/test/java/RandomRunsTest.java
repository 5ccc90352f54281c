import java.lang.reflect.Method;
import java.util.ArrayList;
import java.util.Arrays;
import java.util.HashMap;
import java.util.HashSet;
import java.util.List;
import java.util.Map;
import java.util.Random;
import java.util.Set;

/** Runs of calls by lot (the same every time) on the class and on Model: every answer must be the same. */
public final class RandomRunsTest {
  private static final int RUNS = 1200, CALLS = 240;
  private static final Random LOT = new Random(20261117L);
  private static final Map<String, Method> FACE = new HashMap<>(), MODEL = new HashMap<>();
  private static final Map<String, Set<Integer>> REFUSALS = new HashMap<>();
  private static final List<String> TRACE = new ArrayList<>();
  private static UnderWhitewash x;
  private static Model y;

  public static void main(String[] args) throws Exception {
    for (Method m : UnderWhitewash.class.getDeclaredMethods())
      if (java.lang.reflect.Modifier.isPublic(m.getModifiers())) FACE.put(m.getName(), m);
    for (Method m : Model.class.getDeclaredMethods()) MODEL.put(m.getName(), m);
    List<String> names = new ArrayList<>(FACE.keySet());
    java.util.Collections.sort(names);
    for (int run = 0; run < RUNS; run++) {
      x = new UnderWhitewash();
      y = new Model();
      TRACE.clear();
      if (LOT.nextInt(4) > 0) call("seed", LOT.nextInt());
      if (LOT.nextInt(4) > 0) call("deal", 1 + LOT.nextInt(10));
      if (LOT.nextInt(3) == 0) call("rule", 2, LOT.nextInt(101));
      if (LOT.nextInt(6) == 0) for (int c = 0; c < 6; c++) call("cell", c, 1, 9990 + LOT.nextInt(10));
      if (LOT.nextInt(40) == 0) for (int k = 0; k < 99 + LOT.nextInt(3); k++) call("springs", 100);
      if (LOT.nextInt(20) == 0) for (int k = 0; k < 14; k++) tellText();
      while (TRACE.size() < CALLS) {
        int what = LOT.nextInt(30);
        if (what == 0) tellText();
        else if (what == 1) tellRow();
        else if (what == 2) fillSheet();
        else if (what == 3 && LOT.nextInt(8) == 0) for (int k = 0; k < 9; k++) call("feed", LOT.nextInt(), k, -k);
        else {
          String name = names.get(LOT.nextInt(names.size()));
          if (name.equals("feed")) call(name, LOT.nextInt(), LOT.nextInt(), LOT.nextInt());
          else call(name, arguments(name, FACE.get(name).getParameterCount()));
        }
      }
    }
    everyRefusalCame();
    System.out.println(RUNS + " runs by lot answered as the model does");
  }

  private static int call(String name, int... args) throws Exception {
    Object[] boxed = Arrays.stream(args).boxed().toArray();
    String told = name + Arrays.toString(args);
    int want = (Integer) MODEL.get(name).invoke(y, boxed);
    int got = (Integer) FACE.get(name).invoke(x, boxed);
    TRACE.add(told + " -> " + got);
    REFUSALS.computeIfAbsent(name, k -> new HashSet<>()).add(got);
    if (got != want) {
      for (String s : TRACE) System.out.println(s);
      System.out.println(told + " answered " + got + ", the model says " + want);
      System.exit(1);
    }
    return got;
  }

  // Bounds by which each argument is drawn, with one beyond each end of what is allowed.
  private static final Map<String, int[]> BOUNDS = new HashMap<>();
  static {
    bounds("writes", -1, 6, -1, 100, -1, 60, -1, 6);
    bounds("told", -1, 10, -1, 9);
    bounds("as", -1, 10, -1, 6);
    bounds("turns", -1, 10, -1, 6);
    bounds("set", -1, 10, 0, 5, -1, 100);
    bounds("cell", -1, 6, -1, 2, -1, 100);
    bounds("cellOf", -1, 6, -1, 4);
    bounds("rule", -1, 3, -1, 101);
    bounds("deal", 0, 11);
    bounds("seed", -5, 5);
    bounds("fewest", -1, 1000, -1, 2);
    bounds("breathe", -1, 6);
    bounds("dig", -1, 6, -1, 100);
    bounds("springs", 0, 101);
    bounds("walls", -1, 7);
    bounds("behind", -1, 101, -1, 15);
    bounds("lost", -1, 10);
    bounds("solid", -1, 6);
    bounds("spoon", -1, 10, -1, 61);
    bounds("place", -1, 10, 0, 61, -1, 2);
    bounds("becomes", -1, 10, 0, 61, -1, 2);
    bounds("eyes", -1, 61, -1, 60);
    bounds("like", -1, 4, -1, 2);
    bounds("fee");
    bounds("fine", -1, 10);
    bounds("trim", -1, 97);
    bounds("text");
    bounds("textTold", -1, 14, -1, 2);
    bounds("why", -1, 3);
    bounds("sheet", -1, 4, -2, 2, -1, 25);
    bounds("mark", -1, 4, -1, 24, -1, 100);
    bounds("pour", -1, 4);
    bounds("reads", -1, 4);
    bounds("copy", -1, 4, -1, 25, -1, 4, -1, 25, -1, 25);
    bounds("lay", -1, 5, -1, 4, -1, 10);
    bounds("ask", -1, 5, -1, 6);
    bounds("item", -1, 5, -1, 24);
    bounds("rest", -1, 5, -3, 3);
    bounds("tell", 0, 50);
    bounds("check", 0, 31);
    bounds("keep");
    bounds("back");
    bounds("count", -1, 9);
  }

  private static void bounds(String name, int... b) { BOUNDS.put(name, b); }

  private static final int[] ODD = {Integer.MIN_VALUE, Integer.MAX_VALUE, Integer.MIN_VALUE + 1, -1, 9999, 10000,
      99999, 100000, -99999, -100000, 32767, 32768, -32768, 65535, 1 << 16, UnderWhitewash.NONE, UnderWhitewash.BAD};

  private static int[] arguments(String name, int many) {
    int[] b = BOUNDS.get(name);
    int[] args = new int[many];
    boolean inside = LOT.nextInt(4) > 0;
    for (int k = 0; k < many; k++) {
      int lo = b[2 * k], hi = b[2 * k + 1];
      if (inside) { lo++; hi--; }
      args[k] = lo + LOT.nextInt(hi - lo + 1);
      if (LOT.nextInt(25) == 0) args[k] = ODD[LOT.nextInt(ODD.length)];
    }
    if (inside && many > 0 && y.w.marks.size() > 0 && b[0] == -1 && b[1] == 10) args[0] = LOT.nextInt(y.w.marks.size());
    if (name.equals("set") && LOT.nextInt(4) == 0) args[2] = 9990 + LOT.nextInt(11);
    if (name.equals("set") && args[1] == 3 && inside) args[2] = LOT.nextInt(6);
    if (name.equals("copy") && inside) for (int k : new int[] {1, 3, 4}) args[k] = LOT.nextInt(k == 4 ? 8 : 12);
    if (name.equals("mark") && inside && LOT.nextInt(5) == 0) args[2] = UnderWhitewash.NONE;
    if (name.equals("mark") && inside) args[1] = LOT.nextInt(8);
    if (name.equals("trim") && inside) args[0] = LOT.nextInt(y.tape.length() + 1);
    if (name.equals("lay") && args[1] == 3 && LOT.nextBoolean()) args[2] = LOT.nextInt();
    return args;
  }

  // ---------------------------------------------------------------- texts by lot

  private static void tellText() throws Exception {
    int key = LOT.nextInt(3);
    String text = new String[] {"breath", "fee", "fine"}[key];
    StringBuilder s = new StringBuilder(text);
    if (LOT.nextInt(20) == 0) nest(s);
    else {
      s.append(LOT.nextInt(30) == 0 ? "" : " ");
      expression(s, new String[] {"idcn", "sg", "id"}[key], LOT.nextInt(5));
    }
    if (LOT.nextInt(3) == 0) spoil(s);
    if (s.length() > 96) s.setLength(96);
    call("trim", 0);
    for (int k = 0; k < s.length(); k += 12) {
      int[] v = new int[3];
      for (int j = 0; j < 12; j++) v[j / 4] = v[j / 4] << 8 | (k + j < s.length() ? s.charAt(k + j) : LOT.nextInt(256));
      call("feed", v);
    }
    call("trim", s.length());
    call("text");
    call("fee");
    call("fine", 0);
    call("walls", 6);
    call("told", 1, 5);
    call("count", 5);
    call("textTold", call("count", 5) - 1, 1);
  }

  private static void blank(StringBuilder s) { if (LOT.nextInt(3) == 0) s.append(' '); }

  private static void expression(StringBuilder s, String names, int depth) {
    int pieces = 1 + LOT.nextInt(depth > 0 ? 4 : 1);
    boolean compared = false;
    for (int k = 0; k < pieces; k++) {
      if (k > 0) {
        String ops = compared ? "+-*/&|" : "+-*/&|<=>";
        char op = ops.charAt(LOT.nextInt(ops.length()));
        compared = compared && op != '&' && op != '|' || op == '<' || op == '=' || op == '>';
        blank(s);
        s.append(op);
        blank(s);
      }
      while (LOT.nextInt(6) == 0) s.append('!');
      int what = LOT.nextInt(5);
      if (what == 0 && depth > 0) {
        s.append('(');
        expression(s, names, depth - 1);
        s.append(')');
      } else if (what <= 2) s.append(names.charAt(LOT.nextInt(names.length())));
      else s.append(LOT.nextInt(LOT.nextBoolean() ? 10 : 10000));
    }
  }

  private static void nest(StringBuilder s) {
    int open = 7 + LOT.nextInt(3), nots = 7 + LOT.nextInt(3);
    int closes = open;
    while (open + nots > 0) {
      if (LOT.nextInt(open + nots) < open) { s.append('('); open--; } else { s.append('!'); nots--; }
    }
    s.append('1');
    for (int k = 0; k < closes; k++) s.append(')');
    if (LOT.nextBoolean()) s.append("|!(2)");
  }

  private static void spoil(StringBuilder s) {
    int at = LOT.nextInt(s.length() + 1);
    String odd = " abidcnsgq0123456789+-*/&|!()<=>ABZ" + (char) 0 + (char) 200;
    int what = LOT.nextInt(4);
    if (what == 0) s.insert(at, odd.charAt(LOT.nextInt(odd.length())));
    else if (what == 1) s.setLength(at);
    else if (what == 2 && at < s.length()) s.deleteCharAt(at);
    else if (at < s.length()) s.setCharAt(at, odd.charAt(LOT.nextInt(odd.length())));
  }

  // ---------------------------------------------------------------- rows by lot

  private static void tellRow() throws Exception {
    if (LOT.nextInt(3) == 0) call("keep");
    if (y.image == null) return;
    call("check", 0);
    int n = 1 + LOT.nextInt(30);
    Model.World t = y.image.copy();
    int wrongAt = LOT.nextInt(3) == 0 ? LOT.nextInt(2 * n) : -1;
    for (int k = 0; k < n && t.spring < 9999; k++) {
      t.oneSpring();
      call("tell", t.shown + (wrongAt == 2 * k ? 1 : 0));
      call("tell", t.total(2) - (wrongAt == 2 * k + 1 ? 1 : 0));
    }
    if (LOT.nextInt(6) == 0) call("tell", 0);
    call("check", n + (LOT.nextInt(5) == 0 ? LOT.nextInt(3) - 1 : 0));
  }

  private static void fillSheet() throws Exception {
    int sheet = LOT.nextInt(4), sort = LOT.nextInt(2), n = LOT.nextInt(25);
    call("sheet", sheet, sort, n);
    int style = LOT.nextInt(3);
    for (int k = 0; k < n && k < 12; k++) {
      int v = style == 0 && k < y.w.marks.size() ? y.w.marks.get(k).cell : style == 1 ? LOT.nextInt(140) - 20 : 10 + k;
      call("mark", sheet, k, LOT.nextInt(8) == 0 && sort == 1 ? UnderWhitewash.NONE : v);
    }
    call("reads", sheet);
    call("like", sheet, 0);
    call("like", sheet, 1);
    if (style == 1) call("pour", sheet);
  }

  /** A lot that never meets what it is to meet would prove nothing. */
  private static void everyRefusalCame() {
    String[] due = {"writes BAD FULL", "as BAD KIND", "fewest BAD NONE", "lost BAD NONE", "solid BAD NONE", "spoon BAD NONE",
        "eyes BAD NONE", "like BAD NOTHING NONE", "feed FULL", "trim BAD", "text FULL", "why BAD NONE", "sheet BAD SIZE",
        "mark BAD NOTHING INDEX KIND", "pour BAD NOTHING", "reads BAD NOTHING NONE", "copy BAD NOTHING KIND INDEX",
        "lay BAD NOTHING", "ask BAD NOTHING KIND", "item BAD NOTHING KIND INDEX", "rest BAD NOTHING KIND NO", "tell FULL",
        "check BAD NO", "back NO"};
    Map<String, Integer> codes = Map.of("BAD", UnderWhitewash.BAD, "NO", UnderWhitewash.NO, "FULL", UnderWhitewash.FULL,
        "NONE", UnderWhitewash.NONE, "NOTHING", UnderWhitewash.NOTHING, "KIND", UnderWhitewash.KIND,
        "INDEX", UnderWhitewash.INDEX, "SIZE", UnderWhitewash.SIZE);
    for (String row : due) {
      String[] words = row.split(" ");
      for (int k = 1; k < words.length; k++)
        if (!REFUSALS.get(words[0]).contains(codes.get(words[k]))) {
          System.out.println("no run met " + words[k] + " of " + words[0]);
          System.exit(1);
        }
    }
  }
}
