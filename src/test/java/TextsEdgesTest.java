/** Boundary cases of promises 27 to 31, each answer read off a sentence of the document. */
public final class TextsEdgesTest {
  private static final int BAD = Edges.BAD, FULL = Edges.FULL, NONE = Edges.NONE, MIN = Edges.MIN, MAX = Edges.MAX;

  public static void main(String[] args) {
    feed(); bytes(); trim(); tapeUsedUp(); fourteen(); names(); digits(); keys(); blanks(); signs(); open(); nots(); both(); tooSoon();
    oneTest(); longest(); oneBehindAnother(); faultsChangeNothing(); works(); textTold(); why();
    Edges.end();
  }

  private static void due(int promise, String said, int got, int want) { Edges.due(promise, said, got, want); }

  /** place: that of the FAULT; -1: it is a TEXT. */
  private static void fault(String text, int place) {
    due(29, "the FAULT of '" + text + "'", Edges.say(new UnderWhitewash(), text), place < 0 ? 0 : -100 - place);
  }

  private static void gives(String text, int want) {
    UnderWhitewash x = new UnderWhitewash();
    due(29, "'" + text + "' is a TEXT", Edges.say(x, text), 0);
    due(25, "'" + text + "' gives", x.fee(), want);
  }

  // ---------------------------------------------------------------- 27, 28

  private static void feed() {
    UnderWhitewash x = new UnderWhitewash();
    for (int k = 1; k <= 8; k++) due(27, "how many it has", x.feed(MIN, MAX, -1), 12 * k);
    due(27, "it would have 108", x.feed(0, 0, 0), FULL);
    Edges.unchanged(27, "96 at most", Edges::full, FULL, y -> y.feed(-1, 0, 1));
    for (int n = 80; n <= 96; n++) {
      UnderWhitewash y = Edges.full();
      y.trim(n);
      due(27, n + " and 12 more", y.feed(0, 0, 0), n <= 84 ? n + 12 : FULL);
      due(27, "so many it has", y.count(7), n <= 84 ? n + 12 : n);
    }
    Edges.Scene just = () -> {
      UnderWhitewash y = Edges.rich();
      Edges.put(y, "fine 1" + " + 1".repeat(19) + "   ");
      return y;
    };
    Edges.unchanged(27, "85 and 12 more", just, FULL, y -> y.feed(0, 0, 0));
  }

  private static void bytes() {
    UnderWhitewash x = new UnderWhitewash();
    x.feed(0x20666565, 0x20313233, 0x342d3120);
    due(27, "' fee 1234-1 ': the highest byte first", x.text(), 0);
    due(27, "1233", x.fee(), 1233);
    for (int place = 0; place < 12; place++) {
      int[] v = {0x20202066, 0x65652020, 0x20202035};
      v[place / 4] |= 0x80 << 8 * (3 - place % 4);
      UnderWhitewash y = new UnderWhitewash();
      y.feed(v[0], v[1], v[2]);
      // A byte above 127 is a sign by itself; in "fee", at places 3 to 5, it cuts the word, which is no KEY then.
      due(27, "byte " + place + " is above 127", y.text(), -100 - (place >= 3 && place <= 5 ? 3 : place));
    }
  }

  private static void trim() {
    Edges.outside(28, "THE TAPE of 96 bytes", Edges::full, 0, 96, (x, v) -> x.trim(v));
    Edges.outside(28, "THE TAPE of 12 bytes", Edges::rich, 0, 12, (x, v) -> x.trim(v));
    Edges.outside(28, "an empty TAPE", Edges::fresh, 0, 0, (x, v) -> x.trim(v));
    Edges.unchanged(28, "all of 96", Edges::full, 96, x -> x.trim(96));
    Edges.unchanged(28, "all of 12", Edges::rich, 12, x -> x.trim(12));
    Edges.unchanged(28, "all of none", Edges::fresh, 0, x -> x.trim(0));
    UnderWhitewash x = Edges.full();
    for (int n = 96; n >= 0; n -= 8) {
      due(28, "its first n bytes", x.trim(n), n);
      due(28, "so many it has", x.count(7), n);
    }
    UnderWhitewash y = new UnderWhitewash();
    Edges.put(y, "fee 1234");
    y.trim(6);
    due(28, "bytes that come later stand right behind them", y.feed(0x39202020, 0x20202020, 0x20202020), 18);
    due(28, "it is a TEXT", y.text(), 0);
    due(28, "12 and 9", y.fee(), 129);
  }

  // ---------------------------------------------------------------- 29: the tape, how many

  private static void tapeUsedUp() {
    UnderWhitewash x = new UnderWhitewash();
    Edges.say(x, "fee 1");
    due(29, "used up by a TEXT", x.count(7), 0);
    Edges.say(x, "fee x");
    due(29, "used up by a FAULT", x.count(7), 0);
    due(29, "the tape is empty then", x.text(), -100);
    Edges.changedAs(29, "FULL: nothing but the tape is changed", Edges::full, FULL, y -> y.text(), Edges::fullWithoutTape);
  }

  private static void fourteen() {
    UnderWhitewash x = new UnderWhitewash();
    for (int k = 0; k < 14; k++) due(29, "numbered from 0", Edges.say(x, "fee " + (k + 50)), k);
    due(29, "14 at most", Edges.say(x, "fee 1"), FULL);
    due(29, "the fifteenth does not count", x.fee(), 63);
    due(29, "a FAULT stands ahead of FULL", Edges.say(x, "fee ("), -105);
    due(29, "so does that of an empty tape", x.text(), -100);
    due(29, "still 14", x.count(5), 14);
    due(31, "the last", x.why(1), 13);
  }

  // ---------------------------------------------------------------- 29: words and signs

  private static void names() {
    String[] keys = {"breath", "fee", "fine"}, names = {"idcn", "sg", "id"};
    for (int k = 0; k < 3; k++) for (char c = 0; c < 256; c++) {
      if (c >= '0' && c <= '9') continue;
      boolean name = names[k].indexOf(c) >= 0;
      int at = keys[k].length() + 1;
      int place = name ? -1 : c == ' ' || c == '(' || c == '!' ? at + 1 : at;
      fault(keys[k] + " " + c, place);
      if (c >= 'a' && c <= 'z') fault(keys[k] + " (1+" + c + ")", name ? -1 : at + 3);
    }
    fault("fee ss", 4);
    fault("breath ii", 7);
    fault("fee s s", 6);
    fault("breath i d", 9);
    fault("fine breath", 5);
    fault("fine fine", 5);
  }

  private static void digits() {
    fault("fee 0", -1);
    fault("fee 9", -1);
    fault("fee 12", -1);
    fault("fee 123", -1);
    fault("fee 9999", -1);
    fault("fee 0000", -1);
    fault("fee 10000", 4);
    fault("fee 00000", 4);
    fault("fee 1+99999+1", 6);
    fault("fee 1234 5", 9);
    fault("fee " + "1".repeat(92), 4);
    gives("fee 9999", 9999);
    gives("fee 0001", 1);
  }

  private static void keys() {
    for (String s : new String[] {"b", "breat", "breaths", "Breath", "f", "fe", "feee", "fees", "fin", "fines", "fi", "i", "s", "1", "(", "!",
        "fee1", "fee(", "fee!", "\tfee 1", "+"}) {
      int place = s.equals("fee1") ? 3 : s.equals("fee(") || s.equals("fee!") ? 4 : 0;
      fault(s, place);
    }
    fault("feea 1", 0);
    fault("feez 1", 0);
    fault("zfee 1", 0);
    fault("gee 1", 0);
    fault("wine 1", 0);
    fault("creath 1", 0);
    fault("fef 1", 0);
    fault("fee`1", 3);
    fault("fee{1", 3);
    fault("fee/1", 3);
    fault("fee:1", 3);
    fault("fee 1 fee 2", 6);
    fault("  fe 1", 2);
    fault("fine", 4);
    fault("breath", 6);
  }

  private static void blanks() {
    fault("fee 1", -1);
    fault("fee  1", -1);
    fault(" ".repeat(91) + "fee 1", -1);
    fault("fee" + " ".repeat(92) + "1", -1);
    fault("fee 1" + " ".repeat(91), -1);
    fault(" ".repeat(96), 96);
    fault("fee" + " ".repeat(93), 96);
    fault(" fee ( 1 + s ) * ! 2 ", -1);
    fault("fee(1+s)*!2", -1);
    fault("fee1", 3);
    fault("fees", 0);
    fault("fee 1s", 5);
    fault("fee s1", 5);
    fault("fee (s)1", 7);
    fault("fee 1(", 5);
    fault("fee 12 34", 7);
    fault("fee 1" + (char) 9 + "+1", 5);
    fault("fee" + (char) 160 + "1", 3);
    fault("fee" + (char) 0 + "1", 3);
  }

  private static void signs() {
    String allowed = "+-*/<=>&|";
    for (char c = 1; c < 256; c++) {
      if (c == ' ' || c >= '0' && c <= '9' || c >= 'a' && c <= 'z') continue;
      fault("fee 1" + c + "2", allowed.indexOf(c) >= 0 ? -1 : 5);
      fault("fee " + c + "2", c == '!' ? -1 : c == '(' ? 6 : 4);
    }
    fault("fee 1`2", 5);
    fault("fee 1{2", 5);
    fault("fee 1/2", -1);
    fault("fee 1:2", 5);
    fault("fee 1++2", 6);
    fault("fee 1<>2", 6);
    fault("fee 1!2", 5);
    fault("fee 1!=2", 5);
  }

  // ---------------------------------------------------------------- 29: how deep

  private static void open() {
    fault("fee " + "(".repeat(8) + "1" + ")".repeat(8), -1);
    fault("fee " + "(".repeat(9) + "1" + ")".repeat(9), 12);
    fault("fee " + "( ".repeat(9) + "1" + ")".repeat(9), 20);
    fault("fee " + "(1+".repeat(8) + "1" + ")".repeat(8), -1);
    fault("fee " + "(1+".repeat(9) + "1" + ")".repeat(9), 28);
    fault("fee " + "(1)+".repeat(20) + "1", -1);
    fault("fee " + "(".repeat(8) + "1)+(1" + ")".repeat(8), -1);
    fault("fee " + "(".repeat(8) + "1)+((1", 16);
    fault("fee " + "(".repeat(8), 12);
    fault("fee " + "(".repeat(9), 12);
    fault("fee " + "(".repeat(8) + "1" + ")".repeat(9), 21);
    fault("fee " + "(".repeat(8) + "1" + ")".repeat(7), 20);
  }

  private static void nots() {
    fault("fee " + "!".repeat(8) + "1", -1);
    fault("fee " + "!".repeat(9) + "1", 12);
    fault("fee " + "! ".repeat(9) + "1", 20);
    fault("fee " + "!".repeat(8), 12);
    fault("fee " + "!".repeat(9), 12);
    fault("fee " + ("!".repeat(8) + "1+").repeat(3) + "1", -1);
    fault("fee 1+" + "!".repeat(8) + "1*" + "!".repeat(9) + "1", 24);
    gives("fee " + "!".repeat(8) + "7", 1);
    gives("fee " + "!".repeat(7) + "7", 0);
  }

  private static void both() {
    fault("fee " + "!(".repeat(8) + "1" + ")".repeat(8), -1);
    fault("fee " + "!(".repeat(8) + "!1" + ")".repeat(8), 20);
    fault("fee " + "!(".repeat(8) + "(1" + ")".repeat(9), 20);
    fault("fee " + "(".repeat(8) + "!".repeat(8) + "1" + ")".repeat(8), -1);
    fault("fee " + "!".repeat(8) + "(".repeat(8) + "1" + ")".repeat(8), -1);
    fault("fee " + "!".repeat(8) + "(!1)", 13);
    fault("fee " + "!".repeat(8) + "(1)+!1", -1);
    fault("fee (" + "!".repeat(8) + "1)+" + "!".repeat(8) + "1", -1);
  }

  private static void tooSoon() {
    for (String s : new String[] {"", " ", "fee", "fee ", "fee 1+", "fee 1 + ", "fee (", "fee (1", "fee (1 ", "fee !", "fee 1<", "fee 1&", "fee 1|",
        "fee 1*", "fee 1/", "fee 1-", "fee ((1)", "fee 1=(2"}) fault(s, s.length());
    fault("fee )", 4);
    fault("fee ()", 5);
    fault("fee (1+)", 7);
    fault("fee 1)", 5);
    fault("fee (1))", 7);
  }

  private static void oneTest() {
    for (char a : "<=>".toCharArray()) for (char b : "<=>".toCharArray()) {
      fault("fee 1" + a + "2" + b + "3", 7);
      fault("fee 1" + a + "2&3" + b + "4", -1);
      fault("fee 1" + a + "2|3" + b + "4", -1);
      fault("fee (1" + a + "2)" + b + "3", -1);
      fault("fee 1" + a + "(2" + b + "3)", -1);
      fault("fee 1" + a + "2+3" + b + "4", 9);
      fault("fee 1" + a + "(2)" + b + "4", 9);
    }
  }

  private static void longest() {
    String s = "fee " + "1+".repeat(45) + "12";
    due(29, "96 bytes", s.length(), 96);
    gives(s, 57);
    UnderWhitewash x = new UnderWhitewash();
    Edges.say(x, s);
    due(30, "46 NUMBERS", x.textTold(0, 1), 46);
    fault("fee " + "1+".repeat(46), 96);
    fault("fee " + "1+".repeat(45) + "1x", 95);
    fault("fee " + "1+".repeat(45) + "x1", 94);
    gives("fee " + "!".repeat(8) + "(1+".repeat(8) + "0" + ")".repeat(8) + "+" + "1*".repeat(20) + "3", 4);
  }

  private static void oneBehindAnother() {
    UnderWhitewash x = new UnderWhitewash();
    for (int k = 0; k < 14; k++) {
      for (String wrong : new String[] {"fee 1 2", "fee (1", "fee 1s", k % 2 == 0 ? "fee 12345" : "fee x"}) Edges.say(x, wrong);
      due(29, "what was read ahead of it does not matter", Edges.say(x, "fee " + "1+".repeat(45) + (10 + k)), k);
      due(29, "it gives", x.fee(), 55 + k);
      due(30, "46 NUMBERS", x.textTold(k, 1), 46);
    }
  }

  private static void faultsChangeNothing() {
    String[] wrong = {"", "fee", "fee 10000", "fine i+", "breath (i", "breath i)", "fee " + "(".repeat(9), "fee " + "!".repeat(9), "fine1", "x",
        "fee 1 2", "fine 1<2<3"};
    int[] place = {0, 3, 4, 7, 9, 8, 12, 12, 4, 0, 6, 8};
    for (int k = 0; k < wrong.length; k++) {
      String text = wrong[k];
      Edges.changedAs(29, "'" + text + "': nothing but the tape is changed", Edges::rich, -100 - place[k], x -> Edges.say(x, text),
          () -> {
            UnderWhitewash x = Edges.rich();
            x.trim(0);
            return x;
          });
    }
  }

  // ---------------------------------------------------------------- what texts give

  private static void works() {
    gives("fee 8*4096*4096*16", MIN);
    gives("fee 8*4096*4096*16-1", MAX);
    gives("fee 8*4096*4096*16-1+1", MIN);
    gives("fee 0-8*4096*4096*16", MIN);
    gives("fee 0-8*4096*4096*16-1", MAX);
    gives("fee 16*4096*4096*16", 0);
    gives("fee (8*4096*4096*16)/(0-1)", MIN);
    gives("fee (8*4096*4096*16)*(0-1)", MIN);
    gives("fee 1/0", 0);
    gives("fee 0/0", 0);
    gives("fee (0-1)/0", 0);
    gives("fee 7/2", 3);
    gives("fee (0-7)/2", -3);
    gives("fee 7/(0-2)", -3);
    gives("fee (0-7)/(0-2)", 3);
    gives("fee 1/2", 0);
    gives("fee (0-1)/2", 0);
    gives("fee 1<2", 1);
    gives("fee 2<2", 0);
    gives("fee 2>2", 0);
    gives("fee 2>1", 1);
    gives("fee 2=2", 1);
    gives("fee 2=1", 0);
    gives("fee 0-1<0", 1);
    gives("fee 8*4096*4096*16<0", 1);
    gives("fee (0-1)&(0-2)", 1);
    for (int a = -1; a <= 2; a++) for (int b = -1; b <= 2; b++) {
      String left = a < 0 ? "(0-1)" : "" + a, right = b < 0 ? "(0-1)" : "" + b;
      gives("fee " + left + "&" + right, a != 0 && b != 0 ? 1 : 0);
      gives("fee " + left + "|" + right, a != 0 || b != 0 ? 1 : 0);
      gives("fee " + left + "=" + right, a == b ? 1 : 0);
      gives("fee " + left + "<" + right, a < b ? 1 : 0);
      gives("fee " + left + ">" + right, a > b ? 1 : 0);
    }
    gives("fee (0-1)|0", 1);
    gives("fee 2|2", 1);
    gives("fee 0|0", 0);
    gives("fee 0&1", 0);
    gives("fee !(0-1)", 0);
    gives("fee !0", 1);
    gives("fee !9999", 0);
    gives("fee 1|1&0", 1);
    gives("fee 0&1|1", 1);
    gives("fee 1+1<1*3", 1);
    gives("fee 2-1-1", 0);
    gives("fee 8/4/2", 1);
    gives("fee 8/4*2", 4);
    gives("fee 2*3-4*5", -14);
    gives("fee !0*5", 5);
    gives("fee !0-1=0&3", 1);
  }

  // ---------------------------------------------------------------- 30, 31

  private static void textTold() {
    Edges.outside(30, "three TEXTS", Edges::rich, 0, 2, (x, v) -> x.textTold(v, 0));
    Edges.outside(30, "14 TEXTS", Edges::full, 0, 13, (x, v) -> x.textTold(v, 1));
    Edges.outside(30, "what 0, 1", Edges::rich, 0, 1, (x, v) -> x.textTold(0, v));
    UnderWhitewash x = Edges.full();
    for (int k = 0; k < 14; k++) {
      due(30, "KEY", x.textTold(k, 0), k % 2 == 0 ? 1 : 2);
      due(30, "one NUMBER", x.textTold(k, 1), 1);
    }
    UnderWhitewash y = new UnderWhitewash();
    Edges.say(y, "breath !((i))");
    due(30, "one NAME", y.textTold(0, 1), 1);
    due(30, "KEY breath", y.textTold(0, 0), 0);
    due(30, "a second one is none yet", y.textTold(1, 0), BAD);
    Edges.say(y, "fee 1/");
    due(30, "nor with a FAULT", y.textTold(1, 0), BAD);
    for (int w = 0; w < 2; w++) {
      int what = w;
      Edges.unchanged(30, "textTold changes nothing", Edges::rich, 2, z -> z.textTold(2, what));
    }
  }

  private static void why() {
    Edges.outside(31, "KEYS 0 .. 2", Edges::rich, 0, 2, (x, v) -> x.why(v));
    UnderWhitewash x = new UnderWhitewash();
    String[] keys = {"breath", "fee", "fine"};
    int[] last = {NONE, NONE, NONE};
    for (int k = 0; k < 14; k++) {
      int key = (k * k + k / 3) % 3;
      Edges.say(x, keys[key] + " " + k);
      last[key] = k;
      for (int j = 0; j < 3; j++) due(31, "that which was told last", x.why(j), last[j]);
    }
    Edges.say(x, "breath 1");
    for (int j = 0; j < 3; j++) due(31, "FULL: as they were", x.why(j), last[j]);
  }
}
