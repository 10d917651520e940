import java.util.function.IntUnaryOperator;

/** One method a promise: ordinary inputs, the edges that the document names, wrong inputs; answers reckoned by hand. */
public final class PromiseTest {
  private static final int BAD = -1, FULL = -2, FINDING = -3, STATE = -4, NONE = -9;
  private static final int NOTHING = 1, BEYOND = 2, UNLIKE = 3, NOUGHT = 4, SIZE = 5;
  private static final int MIN = Integer.MIN_VALUE, MAX = Integer.MAX_VALUE;

  private static int promise = 0;
  private static int checks = 0;
  private static int wrong = 0;

  public static void main(String[] args) {
    newObject();
    row();
    lay();
    at();
    tear();
    copy();
    mean();
    text();
    put();
    fault();
    house();
    one();
    mark();
    regard();
    quarter();
    soot();
    wash();
    gift();
    undo();
    keep();
    on();
    box();
    later();
    settles();
    mill();
    gains();
    even();
    change();
    looks();
    kinds();
    test();
    duel();
    odds();
    mid();
    lots();
    asked();
    upperLower();
    count();
    finding();
    findings();
    digest();
    System.out.println(checks + " checks, " + wrong + " wrong");
    if (wrong != 0) {
      System.exit(1);
    }
  }

  private static void due(String what, long got, long want) {
    checks++;
    if (got != want) {
      wrong++;
      System.out.println("promise " + promise + ": " + what + " answered " + got + ", due is " + want);
    }
  }

  private static void told(FiddleShares x, String what, int answer, int asked) {
    due(what, answer, 1);
    due(what + ", asked", x.asked(), asked);
  }

  private static void found(FiddleShares x, String what, int answer, int finding) {
    due(what, answer, FINDING);
    due(what + ", finding", x.finding(), finding);
  }

  private static void fraction(FiddleShares x, String what, int answer, long upper, long lower) {
    due(what, answer, 1);
    due(what + ", upper", x.upper(), upper);
    due(what + ", lower", x.lower(), lower);
  }

  private static void refusesAll(String what, IntUnaryOperator call, int... numbers) {
    for (int v : numbers) {
      due(what + " with " + v, call.applyAsInt(v), BAD);
    }
  }

  private static void write(FiddleShares x, int t, String text) {
    x.text(t, text.length());
    for (int i = 0; i < text.length(); i++) {
      if (text.charAt(i) != ' ') {
        x.put(t, i, text.charAt(i));
      }
    }
  }

  private static FiddleShares houseOf(String text) {
    FiddleShares x = new FiddleShares();
    write(x, 0, text);
    due("house " + text, x.house(0), text.replace(" ", "").length() / 5);
    return x;
  }

  private static FiddleShares rowOf(FiddleShares x, int r, int... ints) {
    x.row(r, ints.length);
    for (int i = 0; i < ints.length; i++) {
      x.lay(r, i, ints[i]);
    }
    return x;
  }

  private static int ask(FiddleShares x, int i, int what) {
    x.one(i, what);
    return x.asked();
  }

  private static int place(FiddleShares x, int r, int i) {
    return x.at(r, i) == 1 ? x.asked() : MIN;
  }

  private static void newObject() {
    promise = 1;
    FiddleShares x = new FiddleShares();
    for (int what = 0; what <= 10; what++) {
      due("count " + what, x.count(what), 0);
    }
    for (int r = 0; r < 6; r++) {
      found(x, "at " + r, x.at(r, 0), NOTHING);
    }
    for (int t = 0; t < 4; t++) {
      found(x, "fault " + t, x.fault(t), NOTHING);
    }
    due("one", x.one(0, 0), BAD);
    due("asked", x.asked(), 0);
    due("upper", x.upper(), 0);
    due("lower", x.lower(), 1);
  }

  private static void row() {
    promise = 2;
    FiddleShares x = new FiddleShares();
    due("row", x.row(0, 40), 40);
    due("row", x.row(5, 0), 0);
    due("rows", x.count(6), 2);
    x.lay(0, 39, 7);
    due("row anew", x.row(0, 40), 40);
    due("place anew", place(x, 0, 39), 0);
    due("shorter", x.row(0, 3), 3);
    found(x, "beyond", x.at(0, 3), BEYOND);
    due("longer again", x.row(0, 5), 5);
    due("place", place(x, 0, 4), 0);
    refusesAll("row number", r -> x.row(r, 1), -1, 6, MIN, MAX);
    refusesAll("row size", n -> x.row(0, n), 41, MAX);
    found(x, "fewer than none", x.row(0, -1), SIZE);
    found(x, "fewer than none", x.row(0, MIN), SIZE);
    due("both wrong", x.row(6, -1), BAD);
    due("a refused row stays", place(x, 0, 4), 0);
  }

  private static void lay() {
    promise = 3;
    FiddleShares x = new FiddleShares();
    found(x, "missing", x.lay(2, 0, 1), NOTHING);
    x.row(2, 2);
    told(x, "lay", x.lay(2, 1, MIN), 0);
    told(x, "lay", x.lay(2, 1, 5), MIN);
    due("laid", place(x, 2, 1), 5);
    due("beside", place(x, 2, 0), 0);
    found(x, "behind", x.lay(2, 2, 1), BEYOND);
    found(x, "ahead", x.lay(2, -1, 1), BEYOND);
    found(x, "far", x.lay(2, MAX, 1), BEYOND);
    found(x, "far ahead", x.lay(2, MIN, 1), BEYOND);
    refusesAll("lay", r -> x.lay(r, 0, 1), -1, 6, MIN, MAX);
  }

  private static void at() {
    promise = 4;
    FiddleShares x = new FiddleShares();
    found(x, "missing", x.at(1, 0), NOTHING);
    rowOf(x, 1, 3, -4);
    told(x, "at", x.at(1, 0), 3);
    told(x, "at", x.at(1, 1), -4);
    found(x, "behind", x.at(1, 2), BEYOND);
    found(x, "ahead", x.at(1, -1), BEYOND);
    found(x, "far", x.at(1, MAX), BEYOND);
    found(x, "far ahead", x.at(1, MIN), BEYOND);
    due("asked stays", x.asked(), -4);
    refusesAll("at", r -> x.at(r, 0), -1, 6, MIN, MAX);
  }

  private static void tear() {
    promise = 5;
    FiddleShares x = new FiddleShares();
    found(x, "missing", x.tear(3), NOTHING);
    x.row(3, 0);
    x.row(4, 1);
    due("tear", x.tear(3), 1);
    due("rows", x.count(6), 1);
    found(x, "torn", x.tear(3), NOTHING);
    found(x, "torn", x.at(3, 0), NOTHING);
    due("other one", place(x, 4, 0), 0);
    refusesAll("tear", x::tear, -1, 6, MIN, MAX);
  }

  private static void copy() {
    promise = 6;
    FiddleShares x = rowOf(new FiddleShares(), 0, 1, 2, 3, 4);
    rowOf(x, 1, 9, 9);
    due("copy", x.copy(0, 2, 1, 0, 2), 1);
    due("copied", place(x, 1, 0), 3);
    due("copied", place(x, 1, 1), 4);
    due("onto itself, up", x.copy(0, 0, 0, 1, 3), 1);
    due("place 0", place(x, 0, 0), 1);
    due("place 1", place(x, 0, 1), 1);
    due("place 3", place(x, 0, 3), 3);
    rowOf(x, 0, 1, 2, 3, 4);
    due("onto itself, down", x.copy(0, 1, 0, 0, 3), 1);
    due("place 0", place(x, 0, 0), 2);
    due("place 2", place(x, 0, 2), 4);
    due("place 3", place(x, 0, 3), 4);
    due("none at the end", x.copy(0, 4, 1, 2, 0), 1);
    found(x, "none behind the end", x.copy(0, 5, 1, 0, 0), BEYOND);
    found(x, "none behind the other end", x.copy(0, 0, 1, 3, 0), BEYOND);
    found(x, "too many", x.copy(0, 2, 0, 0, 3), BEYOND);
    found(x, "no room", x.copy(0, 0, 1, 0, 3), BEYOND);
    found(x, "from ahead", x.copy(0, -1, 1, 0, 1), BEYOND);
    found(x, "to ahead", x.copy(0, 0, 1, -1, 1), BEYOND);
    found(x, "round", x.copy(0, MAX, 1, 0, MAX), BEYOND);
    found(x, "round", x.copy(0, 1, 1, 1, MAX), BEYOND);
    found(x, "far ahead", x.copy(0, MIN, 1, MIN, 0), BEYOND);
    found(x, "missing", x.copy(2, 0, 1, 0, 0), NOTHING);
    found(x, "missing", x.copy(0, 9, 2, 0, 0), NOTHING);
    found(x, "fewer than none", x.copy(2, 0, 3, 0, -1), SIZE);
    refusesAll("from", r -> x.copy(r, 0, 0, 0, -1), -1, 6, MIN, MAX);
    refusesAll("to", r -> x.copy(0, 0, r, 0, -1), -1, 6, MIN, MAX);
  }

  private static void mean() {
    promise = 7;
    FiddleShares x = new FiddleShares();
    found(x, "missing", x.mean(0), NOTHING);
    x.row(0, 0);
    found(x, "of none", x.mean(0), NOUGHT);
    told(x, "of one", rowOf(x, 0, 7).mean(0), 7);
    told(x, "cut", rowOf(x, 0, 1, 2, 2).mean(0), 1);
    told(x, "cut below 0", rowOf(x, 0, -1, -2, -2).mean(0), -1);
    told(x, "great ones", rowOf(x, 0, MAX, MAX, MAX).mean(0), MAX);
    told(x, "small ones", rowOf(x, 0, MIN, MIN).mean(0), MIN);
    told(x, "both", rowOf(x, 0, MIN, MAX).mean(0), 0);
    refusesAll("mean", x::mean, -1, 6, MIN, MAX);
  }

  private static void text() {
    promise = 8;
    FiddleShares x = new FiddleShares();
    due("text", x.text(3, 60), 60);
    due("texts", x.count(7), 1);
    due("blank", x.put(3, 59, 65), 1032);
    due("anew", x.text(3, 60), 60);
    due("blank again", x.put(3, 59, 65), 1032);
    due("none", x.text(0, 0), 0);
    due("texts", x.count(7), 2);
    found(x, "fewer than none", x.text(0, -1), SIZE);
    found(x, "fewer than none", x.text(0, MIN), SIZE);
    refusesAll("text", t -> x.text(t, -1), -1, 4, MIN, MAX);
    refusesAll("text size", n -> x.text(0, n), 61, MAX);
  }

  private static void put() {
    promise = 9;
    FiddleShares x = new FiddleShares();
    found(x, "missing", x.put(0, 0, 1), NOTHING);
    x.text(0, 2);
    due("put", x.put(0, 1, 127), 1032);
    due("was", x.put(0, 1, 128), 1127);
    due("cut to a byte", x.put(0, 1, 255), 872);
    due("cut to a byte", x.put(0, 1, 256), 999);
    due("cut to a byte", x.put(0, 1, -129), 1000);
    due("cut to a byte", x.put(0, 1, MIN), 1127);
    due("cut to a byte", x.put(0, 1, 0), 1000);
    due("beside", x.put(0, 0, 0), 1032);
    found(x, "behind", x.put(0, 2, 1), BEYOND);
    found(x, "ahead", x.put(0, -1, 1), BEYOND);
    found(x, "far", x.put(0, MAX, 1), BEYOND);
    found(x, "far ahead", x.put(0, MIN, 1), BEYOND);
    refusesAll("put", t -> x.put(t, 0, 1), -1, 4, MIN, MAX);
  }

  private static int faultOf(String text) {
    FiddleShares x = new FiddleShares();
    write(x, 1, text);
    int fault = x.fault(1);
    due("house by " + text, x.house(1), fault == NONE ? x.count(0) : STATE);
    return fault;
  }

  private static void fault() {
    promise = 10;
    due("two", faultOf("k0000s9999"), NONE);
    due("blanks", faultOf("   m1203   p4567   "), NONE);
    due("six", faultOf("k0000s0000m0000p0000j0000u0000"), NONE);
    due("six, blanks behind", faultOf("k0000 s0000 m0000 p0000 j0000 u0000 "), NONE);
    due("a seventh", faultOf("k0000s0000m0000p0000j0000u0000 k0000"), 31);
    due("a seventh that is none", faultOf("k0000s0000m0000p0000j0000u00007"), 30);
    due("none", faultOf(""), 0);
    due("blanks alone", faultOf("    "), 4);
    due("one", faultOf("k0000"), 5);
    due("one, blanks", faultOf(" k0000  "), 8);
    due("end within", faultOf("k0000 k000"), 10);
    due("end behind a letter", faultOf("k0000 k"), 7);
    due("blank within", faultOf("k0000 k0 00"), 8);
    due("no letter", faultOf("k0000 00000"), 6);
    due("great letter", faultOf("K0000 k0000"), 0);
    due("letter for a figure", faultOf("k0000kk000"), 6);
    due("below figures", faultOf("k0000k000/"), 9);
    due("above figures", faultOf("k0000k00:0"), 8);
    for (String letter : "abcdefghilnoqrtvwxyz".split("")) {
      due("letter " + letter, faultOf("k0000 " + letter + "0000"), 6);
    }
    FiddleShares x = new FiddleShares();
    found(x, "missing", x.fault(0), NOTHING);
    write(x, 0, "k0000s9999");
    write(x, 0, "k0000s999");
    due("shorter than it was", x.fault(0), 9);
    write(x, 0, " ".repeat(55) + "k000");
    due("end of a long one", x.fault(0), 59);
    x.text(0, 60);
    x.put(0, 59, 'k');
    due("end of the longest", x.fault(0), 60);
    write(x, 0, "k0000s9999");
    x.put(0, 5, 's' + 128);
    due("letter below 0", x.fault(0), 5);
    x.put(0, 5, 's' + 256);
    due("letter cut", x.fault(0), NONE);
    due("no house of it", x.count(0), 0);
    refusesAll("fault", x::fault, -1, 4, MIN, MAX);
  }

  private static void house() {
    promise = 11;
    FiddleShares x = new FiddleShares();
    found(x, "missing", x.house(0), NOTHING);
    refusesAll("house", x::house, -1, 4, MIN, MAX);
    write(x, 0, "s5237 u9100 ");
    due("house", x.house(0), 2);
    x.soot(0);
    x.quarter();
    x.keep(1);
    write(x, 1, "k1234 k1234 m8890");
    due("another", x.house(1), 3);
    due("kin", x.count(0), 3);
    due("no quarter", x.count(1), 0);
    due("no deeds", x.count(2), 0);
    due("no soot", x.count(4), 0);
    due("kept houses go", x.count(8), 0);
    found(x, "kept house", x.on(1), NOTHING);
    due("kind", ask(x, 2, 0), 2);
    due("purse", ask(x, 2, 3), 90);
    x.keep(0);
    x.soot(2);
    write(x, 2, "k1234");
    due("a fault", x.house(2), STATE);
    due("refused: kin", x.count(0), 3);
    due("refused: deeds", x.count(2), 1);
    due("refused: kept", x.count(8), 1);
    due("anew by the same", x.house(1), 3);
    due("anew: deeds", x.count(2), 0);
  }

  private static void one() {
    promise = 12;
    FiddleShares x = houseOf("k9012 s8123 m7234 p6305 j5456 u4507");
    int[][] want = {
      {0, 9, 0, 12, 0, 9, 5},
      {1, 8, 1, 23, 0, 10, 4},
      {2, 7, 2, 34, 0, 10, 4},
      {3, 6, 3, 5, 0, 5, 9},
      {4, 5, 4, 56, 0, 14, 0},
      {5, 4, 5, 7, 0, 1, 13}};
    for (int i = 0; i < 6; i++) {
      for (int what = 0; what < 7; what++) {
        told(x, "one " + i + " " + what, x.one(i, what), want[i][what]);
      }
    }
    x.soot(4);
    due("soot", ask(x, 4, 4), 1);
    due("regarded", ask(x, 4, 5), 10);
    due("paid", ask(x, 0, 6), 1);
    refusesAll("one", i -> x.one(i, 0), -1, 6, MIN, MAX);
    refusesAll("what", what -> x.one(0, what), -1, 7, MIN, MAX);
    due("asked stays", x.asked(), 1);
  }

  private static void mark() {
    promise = 13;
    FiddleShares x = houseOf("k9012 s8123 m7234 p6305 j5456 u4507");
    due("sister", x.mark(1, 1), 2);
    due("miller", x.mark(2, 2), 3);
    due("patched", x.mark(3, 3), 1);
    due("julia as a sister", x.mark(4, 1), 9);
    due("julia", x.mark(4, 4), 7);
    due("unlisted as patched", x.mark(5, 3), 3);
    due("unlisted", x.mark(5, 5), 2);
    int[][] unlike = {{0, 1}, {0, 5}, {1, 2}, {1, 4}, {2, 1}, {2, 3}, {3, 5}, {3, 1}, {4, 2}, {4, 5}, {5, 4}, {5, 2}};
    for (int[] pair : unlike) {
      found(x, "mark " + pair[0] + " " + pair[1], x.mark(pair[0], pair[1]), UNLIKE);
    }
    x.soot(3);
    x.soot(3);
    x.soot(3);
    due("patched, nothing left", x.mark(3, 3), 0);
    x.soot(4);
    due("julia with soot", x.mark(4, 4), 5);
    refusesAll("mark", i -> x.mark(i, 1), -1, 6, MIN, MAX);
    refusesAll("kind", kind -> x.mark(0, kind), -1, 0, 6, MIN, MAX);
  }

  private static void regard() {
    promise = 14;
    FiddleShares x = houseOf("k5000 s5000 m5000 p5000 j5000 u5000");
    int[][] wants = {
      {0, 0, 5}, {0, 1, 3}, {0, 2, 1}, {0, 3, 0},
      {1, 0, 5}, {1, 3, 0}, {2, 0, 5}, {2, 2, 1},
      {3, 0, 4}, {3, 2, 0}, {3, 3, 0}, {4, 0, 10}, {4, 1, 6}, {5, 0, 2}, {5, 1, 1}, {5, 3, 0}};
    for (int[] w : wants) {
      due("regard " + w[0] + " " + w[1], x.regard(w[0], w[1], 0), w[2]);
    }
    int[][] purses = {
      {0, 99, 5}, {1, 19, 5}, {1, 20, 7}, {1, 99, 7}, {2, 9, 5}, {2, 10, 6}, {2, 19, 6}, {2, 99, 14},
      {3, 9, 4}, {3, 10, 5}, {4, 19, 10}, {4, 20, 14}, {5, 9, 2}, {5, 10, 2}};
    for (int[] w : purses) {
      due("regard with purse " + w[0] + " " + w[1], x.regard(w[0], 0, w[1]), w[2]);
    }
    due("sister with soot, rich", x.regard(1, 3, 20), 2);
    due("julia with soot, rich", x.regard(4, 3, 20), 4);
    due("nothing done", x.count(2), 0);
    refusesAll("regard", i -> x.regard(i, 0, 0), -1, 6, MIN, MAX);
    refusesAll("soot", s -> x.regard(0, s, 0), -1, 4, MIN, MAX);
    refusesAll("purse", p -> x.regard(0, 0, p), -1, 100, MIN, MAX);
  }

  private static void quarter() {
    promise = 15;
    due("no kin", new FiddleShares().quarter(), STATE);
    FiddleShares x = houseOf("k9012 k5298 k1903 k0001");
    due("paid together", x.quarter(), 4 + 8 + 9);
    due("12 + 0 - 0", ask(x, 0, 3), 12);
    due("98 + 4 - 2, 99 at most", ask(x, 1, 3), 99);
    due("3 + 8 - 9", ask(x, 2, 3), 2);
    due("1 + 9 - 0", ask(x, 3, 3), 10);
    due("quarter", x.count(1), 1);
    due("deeds", x.count(2), 1);
    x.quarter();
    x.quarter();
    x.quarter();
    due("0 at least", ask(x, 2, 3), 0);
    FiddleShares all = houseOf("m9999 m0000");
    due("all at once", all.quarter(), 18);
    due("of the purses ahead", ask(all, 0, 3), 90);
    due("of the purses ahead", ask(all, 1, 3), 18);
    for (int k = 1; k < 40; k++) {
      due("quarter " + k, all.quarter() >= 0 ? 1 : 0, 1);
    }
    due("40 deeds", all.quarter(), FULL);
    due("quarters", all.count(1), 40);
  }

  private static void soot() {
    promise = 16;
    FiddleShares x = houseOf("k9012 k5299");
    due("soot", x.soot(1), 1);
    due("soot", x.soot(1), 2);
    due("soot", x.soot(1), 3);
    due("has 3", x.soot(1), STATE);
    due("who", x.count(4), 2);
    due("deeds", x.count(2), 3);
    due("regarded", ask(x, 1, 5), 0);
    x.lots(20, 1);
    x.lots(17, 1);
    due("full", x.count(2), 40);
    due("full", x.soot(0), ask(x, 0, 4) == 3 ? STATE : FULL);
    refusesAll("soot", x::soot, -1, 2, MIN, MAX);
    FiddleShares y = houseOf("k9012 k5299");
    for (int k = 0; k < 3; k++) {
      y.soot(0);
    }
    for (int k = 0; k < 36; k++) {
      y.quarter();
    }
    due("the 40th deed", y.soot(1), 1);
    due("STATE ahead of FULL", y.soot(0), STATE);
    due("FULL", y.soot(1), FULL);
    due("BAD ahead of all", y.soot(2), BAD);
  }

  private static void wash() {
    promise = 17;
    FiddleShares x = houseOf("k9012 k5299");
    due("none", x.wash(0), STATE);
    x.soot(0);
    x.soot(0);
    due("wash", x.wash(0), 2);
    due("none left", x.wash(0), STATE);
    due("soot", ask(x, 0, 4), 0);
    due("deeds", x.count(2), 3);
    x.soot(1);
    for (int k = 0; k < 34; k++) {
      x.quarter();
    }
    x.soot(0);
    due("the 40th deed", x.wash(0), 1);
    due("FULL", x.wash(1), FULL);
    due("STATE ahead of FULL", x.wash(0), STATE);
    due("still sooted", x.count(4), 2);
    refusesAll("wash", x::wash, -1, 2, MIN, MAX);
  }

  private static void gift() {
    promise = 18;
    FiddleShares x = houseOf("k9012 k5290");
    due("gift", x.gift(0, 1, 5), 95);
    due("given", ask(x, 0, 3), 7);
    due("not so much", x.gift(0, 1, 8), STATE);
    due("what is more is lost", x.gift(0, 1, 7), 99);
    due("all given", ask(x, 0, 3), 0);
    due("all back", x.gift(1, 0, 99), 99);
    due("deeds", x.count(2), 3);
    refusesAll("from", i -> x.gift(i, 1, 1), -1, 1, 2, MIN, MAX);
    refusesAll("to", j -> x.gift(0, j, 1), -1, 0, 2, MIN, MAX);
    refusesAll("how much", v -> x.gift(0, 1, v), 0, -1, 100, MIN, MAX);
    for (int k = 0; k < 36; k++) {
      x.gift(0, 1, 1);
    }
    due("the 40th deed", x.gift(0, 1, 1), 37);
    due("FULL", x.gift(0, 1, 1), FULL);
    due("STATE ahead of FULL", x.gift(0, 1, 99), STATE);
    due("BAD ahead of all", x.gift(0, 0, 99), BAD);
  }

  private static void undo() {
    promise = 19;
    FiddleShares none = new FiddleShares();
    due("nothing to undo", none.undo(0), 0);
    refusesAll("undo without a house", none::undo, -1, 1, MIN, MAX);
    FiddleShares x = houseOf("s9112 u5298 j3303");
    long[] was = new long[41];
    was[0] = x.digest();
    x.soot(0);
    was[1] = x.digest();
    x.quarter();
    was[2] = x.digest();
    x.gift(1, 0, 60);
    was[3] = x.digest();
    x.wash(0);
    was[4] = x.digest();
    x.lots(20, 77);
    was[24] = x.digest();
    refusesAll("undo", x::undo, -1, 25, MIN, MAX);
    due("undo none", x.undo(24), 0);
    due("as it was", x.digest(), was[24]);
    due("undo the lots", x.undo(4), 20);
    due("as it was", x.digest(), was[4]);
    due("undo the washing", x.undo(3), 1);
    due("as it was", x.digest(), was[3]);
    due("undo the gift", x.undo(2), 1);
    due("as it was", x.digest(), was[2]);
    x.quarter();
    due("undo two quarters", x.undo(1), 2);
    due("as it was", x.digest(), was[1]);
    due("undo all", x.undo(0), 1);
    due("as it was", x.digest(), was[0]);
    due("quarter", x.count(1), 0);
    x.lots(20, 3);
    x.keep(0);
    due("kept houses stay", x.undo(5), 15);
    due("kept houses stay", x.on(0), 20);
  }

  private static void keep() {
    promise = 20;
    FiddleShares x = new FiddleShares();
    due("no kin", x.keep(0), STATE);
    refusesAll("keep", x::keep, -1, 3, MIN, MAX);
    write(x, 0, "k9012 k5290");
    x.house(0);
    due("keep", x.keep(2), 0);
    x.soot(1);
    x.quarter();
    due("keep", x.keep(0), 2);
    due("kept", x.count(8), 2);
    due("keep over", x.keep(2), 2);
    due("kept", x.count(8), 2);
    x.quarter();
    due("kept as it was", x.on(2), 2);
    due("quarter", x.count(1), 1);
    due("soot", x.count(4), 2);
    refusesAll("keep", x::keep, -1, 3, MIN, MAX);
  }

  private static void on() {
    promise = 21;
    FiddleShares x = houseOf("s9112 u5298 j3303");
    found(x, "nothing kept", x.on(1), NOTHING);
    refusesAll("on", x::on, -1, 3, MIN, MAX);
    x.soot(2);
    x.quarter();
    x.keep(1);
    long was = x.digest();
    x.gift(1, 2, 5);
    x.quarter();
    due("on", x.on(1), 2);
    due("as it was", x.digest(), was);
    due("its deeds can be undone", x.undo(1), 1);
    due("no quarter then", x.count(1), 0);
    due("on again", x.on(1), 2);
    due("as it was", x.digest(), was);
    x.row(3, 1);
    due("rows stay as they are", x.on(1), 2);
    due("rows", x.count(6), 1);
    found(x, "another place", x.on(0), NOTHING);
    x.undo(0);
    x.gift(1, 0, 9);
    x.gift(1, 0, 9);
    x.gift(1, 0, 9);
    due("behind quite other deeds", x.on(1), 2);
    due("behind quite other deeds", ask(x, 2, 4), 1);
    x.keep(0);
    x.tear(3);
    x.house(0);
    x.soot(2);
    x.quarter();
    x.keep(1);
    due("by the same deeds", x.digest(), was);
  }

  private static void box() {
    promise = 22;
    due("no kin", new FiddleShares().box(), STATE);
    FiddleShares x = houseOf("k3000 k7000 k7000 k5000");
    due("box", x.box(), 4 + 0 + 0 + 2);
    due("the first", x.asked(), 1);
    due("nothing done", x.count(2), 0);
    x.soot(1);
    due("box", x.box(), 4 + 2 + 0 + 2);
    due("most", x.asked(), 2);
    FiddleShares nobody = houseOf("k0000 k0000");
    due("nothing", nobody.box(), 0);
    due("the first of all", nobody.asked(), 0);
  }

  private static void later() {
    promise = 23;
    FiddleShares x = houseOf("k9000 k4250 k0903");
    due("now", x.later(1, 0), 50);
    due("nothing paid", x.asked(), 0);
    due("50 + 3 * 3", x.later(1, 3), 59);
    due("3 * 5", x.asked(), 15);
    due("99 at most", x.later(1, 60), 99);
    due("paid all the same", x.asked(), 300);
    due("paid 9, wants 9", x.later(2, 60), 3);
    due("paid", x.asked(), 540);
    due("nothing done", x.count(1), 0);
    due("purses as they are", x.count(3), 53);
    refusesAll("later", i -> x.later(i, 0), -1, 3, MIN, MAX);
    refusesAll("quarters", n -> x.later(0, n), -1, 61, MIN, MAX);
    due("asked stays", x.asked(), 540);
  }

  private static void settles() {
    promise = 24;
    due("no kin", new FiddleShares().settles(), STATE);
    FiddleShares x = houseOf("k9000 k8000");
    due("99 quarters of 1", x.settles(), NONE);
    FiddleShares y = houseOf("k9000 k8039");
    due("just by then", y.settles(), 60);
    due("the box", y.asked(), 1);
    FiddleShares late = houseOf("k9000 k8038");
    due("one too late", late.settles(), NONE);
    due("asked stays", late.asked(), 0);
    FiddleShares z = houseOf("k9000 k8190");
    due("at once", z.settles(), 0);
    due("the box", z.asked(), 1);
    due("nothing done", y.count(3), 39);
    y.later(0, 60);
    due("from now on, whatever was asked ahead", y.settles(), 60);
  }

  private static void mill() {
    promise = 25;
    FiddleShares none = new FiddleShares();
    due("no kin", none.mill(0), STATE);
    refusesAll("mill without kin", none::mill, -1, 100, MIN, MAX);
    FiddleShares x = houseOf("k9000 k6000 k7005");
    due("now", x.mill(0), 0);
    due("now", x.asked(), 0);
    due("has it", x.mill(5), 2);
    due("now", x.asked(), 0);
    due("two at once, the first", x.mill(15), 1);
    due("behind 5", x.asked(), 5);
    due("the later one first", x.mill(13), 2);
    due("behind 4", x.asked(), 4);
    due("in the end", x.mill(99), 1);
    due("behind 33", x.asked(), 33);
    FiddleShares slow = houseOf("k9000 k8000");
    due("just by then", slow.mill(60), 1);
    due("behind 60", slow.asked(), 60);
    due("not by then", slow.mill(61), NONE);
    due("from now on, whatever was asked ahead", slow.mill(60), 1);
    due("asked stays", slow.asked(), 60);
    refusesAll("mill", x::mill, -1, 100, MIN, MAX);
  }

  private static void gains() {
    promise = 26;
    FiddleShares none = new FiddleShares();
    due("no kin", none.gains(1), STATE);
    refusesAll("gains without kin", none::gains, 0, -1, 41, MIN, MAX);
    FiddleShares x = houseOf("k9000 k8000 k0000 k5099");
    due("who can gain", x.gains(1), 1 | 2);
    FiddleShares step = houseOf("s2020 k3000");
    due("each by oneself", step.gains(1), 1 | 2);
    FiddleShares wanting = houseOf("k9000 k5700");
    due("1 of soot is not enough for what one wants", wanting.gains(1), 0);
    FiddleShares y = houseOf("k9000 k3000");
    due("not the one at the top", y.gains(1), 2);
    due("nobody's purse is full", y.gains(16), 2);
    due("all full by then", y.gains(17), 0);
    due("all full by then", y.gains(40), 0);
    y.soot(1);
    y.soot(1);
    due("nothing left to lose", y.gains(1), 0);
    FiddleShares z = houseOf("k9000 k9000");
    z.soot(0);
    z.soot(0);
    z.soot(0);
    due("who has 3", z.gains(1), 0);
    due("nothing done", z.count(2), 3);
    refusesAll("gains", x::gains, 0, -1, 41, MIN, MAX);
  }

  private static void even() {
    promise = 27;
    FiddleShares x = houseOf("k9000 k7000 k5000");
    due("even now", x.even(0, 1, 0, 5), 0);
    due("size of the row", x.row(4, 0) + x.at(5, 3), FINDING);
    due("by one", x.even(0, 1, 1, 5), 1);
    due("soot of the first", place(x, 5, 0), 1);
    due("soot of the second", place(x, 5, 1), 0);
    due("soot of the third", place(x, 5, 2), 0);
    x.soot(2);
    due("of two", x.even(0, 2, 1, 5), 1);
    due("the first that rises", place(x, 5, 0), 3);
    due("as it is", place(x, 5, 2), 1);
    due("nothing done", x.count(2), 1);
    FiddleShares first = houseOf("k4000 k4000 k9000");
    first.soot(0);
    due("either would do", first.even(0, 1, 1, 0), 1);
    due("rising", place(first, 0, 0), 0);
    due("rising", place(first, 0, 1), 0);
    FiddleShares rising = houseOf("k4000 k4000 k9000");
    rising.soot(1);
    due("either would do", rising.even(0, 1, 1, 0), 1);
    due("rising: the first one's counts most", place(rising, 0, 0), 0);
    due("rising", place(rising, 0, 1), 0);
    FiddleShares both = houseOf("k9000 k9006");
    both.soot(1);
    due("of all", both.even(0, 1, 1, 0), 2);
    due("the poorer one's", place(both, 0, 0), 3);
    due("the richer one's", place(both, 0, 1), 0);
    FiddleShares never = rowOf(houseOf("k0099 k0000"), 1, 8);
    due("can not be", never.even(0, 1, 20, 1), NONE);
    due("row as it is", place(never, 1, 0), 8);
    due("none missing made", never.even(0, 1, 0, 2), NONE);
    found(never, "row missing", never.at(2, 0), NOTHING);
    refusesAll("even", i -> x.even(i, 1, 0, 0), -1, 1, 3, MIN, MAX);
    refusesAll("with", j -> x.even(0, j, 0, 0), -1, 0, 3, MIN, MAX);
    refusesAll("quarters", n -> x.even(0, 1, n, 0), -1, 21, MIN, MAX);
    refusesAll("row", r -> x.even(0, 1, 0, r), -1, 6, MIN, MAX);
  }

  private static void change() {
    promise = 28;
    FiddleShares none = new FiddleShares();
    due("no kin", none.change(1), STATE);
    refusesAll("change without kin", none::change, 0, -1, 21, MIN, MAX);
    FiddleShares x = houseOf("j9000 k3000");
    due("two", x.change(1), 1);
    due("how much", x.asked(), 3);
    FiddleShares y = houseOf("j3000 k9000");
    due("no two make it less", y.change(1), NONE);
    due("asked stays", y.asked(), 0);
    FiddleShares first = houseOf("k1000 j9000 k1000 k1000");
    due("the first", first.change(1), 1);
    due("how much", first.asked(), 7 + 8 + 8);
    FiddleShares last = houseOf("k9000 k2000 j9000 k2000");
    due("10 times the lesser number", last.change(1), 12);
    due("how much", last.asked(), 0 + 0 + 5 + 7);
    FiddleShares alike = houseOf("k9000 k1000 k5000");
    due("alike is not less", alike.change(20), NONE);
    due("nothing done", x.count(2), 0);
    due("looked at as ever", ask(x, 0, 1), 9);
    refusesAll("change", x::change, 0, -1, 21, MIN, MAX);
  }

  private static void refusesPairs(String what, FiddleShares x, java.util.function.IntBinaryOperator call) {
    for (int i : new int[] {-1, 2, MIN, MAX}) {
      due(what + ": one " + i, call.applyAsInt(i, 0), BAD);
    }
    for (int r : new int[] {-1, 6, MIN, MAX}) {
      due(what + ": row " + r, call.applyAsInt(0, r), BAD);
    }
    x.tear(3);
    found(x, what + ": missing", call.applyAsInt(0, 3), NOTHING);
    rowOf(x, 3, 100, 5, 0);
    found(x, what + ": no pairs, ahead of unlike", call.applyAsInt(0, 3), SIZE);
    int[][] unlike = {{100, 5}, {-1, 5}, {0, 31}, {0, -1}, {0, 0, 0, 31}, {MIN, 0}, {0, MAX}};
    for (int[] pair : unlike) {
      found(rowOf(x, 3, pair), what + ": a number that is none", call.applyAsInt(0, 3), UNLIKE);
    }
    due(what + ": edges", rowOf(x, 3, 99, 30).kinds(0, 3), 0);
  }

  private static void looks() {
    promise = 29;
    FiddleShares x = houseOf("u5000 k3000");
    refusesPairs("looks", x, x::looks);
    due("half, cut", rowOf(x, 0, 5, 2).looks(0, 0), 1 << 5 | 1 << 6);
    due("by both", rowOf(x, 0, 5, 2, 10, 2).looks(0, 0), 1 << 5);
    due("none", rowOf(x, 0, 5, 2, 5, 3).looks(0, 0), 0);
    due("by nothing", rowOf(x, 0).looks(0, 0), 1023);
    x.soot(1);
    due("with the soot as it is", rowOf(x, 0, 5, 0).looks(1, 0), 7);
    due("with the soot as it is", rowOf(x, 0, 5, 7).looks(1, 0), 512);
    due("not so much", rowOf(x, 0, 5, 8).looks(1, 0), 0);
  }

  private static void kinds() {
    promise = 30;
    FiddleShares x = houseOf("u5000 k3000");
    refusesPairs("kinds", x, x::kinds);
    due("by nothing", rowOf(x, 0).kinds(0, 0), 63);
    due("poor", rowOf(x, 0, 0, 5).kinds(0, 0), 1 | 2 | 4);
    due("patched", rowOf(x, 0, 0, 4).kinds(0, 0), 8);
    due("julia", rowOf(x, 0, 0, 10).kinds(0, 0), 16);
    due("unlisted", rowOf(x, 0, 0, 2).kinds(0, 0), 32);
    due("rich", rowOf(x, 0, 29, 7).kinds(0, 0), 2 | 4);
    due("both", rowOf(x, 0, 29, 7, 30, 8).kinds(0, 0), 4);
    due("none", rowOf(x, 0, 29, 6).kinds(0, 0), 0);
    x.soot(0);
    due("with the soot as it is", rowOf(x, 0, 0, 3).kinds(0, 0), 1 | 2 | 4);
  }

  private static void test() {
    promise = 31;
    FiddleShares x = houseOf("u5000 k3000");
    refusesPairs("test", x, x::test);
    due("no kind", rowOf(x, 0, 29, 6).test(0, 0), NONE);
    due("one kind", rowOf(x, 0, 0, 4).test(0, 0), 0);
    due("its part", x.asked(), 1);
    due("three", rowOf(x, 0, 0, 5).test(0, 0), 30);
    due("parts", x.asked(), 1);
    due("sister or miller", rowOf(x, 0, 29, 7).test(0, 0), 10);
    due("parts", x.asked(), 1);
    due("all", rowOf(x, 0).test(0, 0), 20);
    due("parts", x.asked(), 2);
    due("no kind leaves asked", rowOf(x, 0, 29, 6).test(0, 0), NONE);
    due("asked by lay", x.asked(), 0);
  }

  private static void duel() {
    promise = 32;
    FiddleShares x = houseOf("k9020 k9010 k9000");
    due("no turns", x.duel(0, 1, 0), 110);
    due("one turn: 4 * 2 more", x.duel(0, 1, 1), 118);
    due("two turns", x.duel(0, 1, 2), 110);
    due("three turns", x.duel(0, 1, 3), 118);
    due("the other one first", x.duel(1, 0, 1), 98);
    due("six turns", x.duel(0, 1, 6), 110);
    due("nothing done", x.count(2), 0);
    FiddleShares y = houseOf("k9000 k9000 k9000");
    y.soot(0);
    y.soot(0);
    due("soot as it is", y.duel(0, 1, 0), 116);
    due("3 at most", y.duel(0, 1, 3), 100 + 24 - 8);
    FiddleShares w = houseOf("j5020 k0000");
    w.soot(0);
    w.soot(0);
    w.soot(0);
    due("washed would cost", w.duel(0, 1, 1), 104);
    due("the other one can do nothing", w.duel(0, 1, 2), 104);
    FiddleShares v = houseOf("j5000 s9000");
    v.soot(0);
    v.soot(1);
    due("washed", v.duel(1, 0, 0), 100 - 4);
    due("more soot is best", v.duel(0, 1, 1), 100 + 4 * 5);
    FiddleShares u = houseOf("u3017 s2019");
    for (int k = 0; k < 3; k++) {
      u.soot(0);
      u.soot(1);
    }
    due("nobody is paid", u.duel(0, 1, 0), 98);
    // washed, the first is regarded 1: the sister is paid 1, has 20, is regarded 2, and pays it back thrice
    due("it is best to be washed", u.duel(0, 1, 1), 100);
    due("the second one is washed, too", u.duel(1, 0, 2), 100);
    refusesAll("duel", i -> x.duel(i, 1, 0), -1, 1, 3, MIN, MAX);
    refusesAll("with", j -> x.duel(0, j, 0), -1, 0, 3, MIN, MAX);
    refusesAll("turns", n -> x.duel(0, 1, n), -1, 7, MIN, MAX);
  }

  private static void odds() {
    promise = 33;
    FiddleShares x = houseOf("k9000 k4000");
    fraction(x, "sure", x.odds(0, 0, 5), 1, 1);
    fraction(x, "never overlooked", x.odds(1, 5, 0), 1, 1);
    fraction(x, "never overlooked", x.odds(1, 6, 0), 0, 1);
    fraction(x, "paid 5 or 9: the first one is seen", x.odds(1, 5, 3), 3, 4);
    fraction(x, "paid 9: the first one seen, oneself not", x.odds(1, 6, 3), 3, 16);
    fraction(x, "paid 4: the other one seen, oneself not", x.odds(0, 1, 3), 3, 16);
    fraction(x, "all overlooked", x.odds(1, 1, 12), 0, 1);
    fraction(x, "more than can be", x.odds(1, 40, 6), 0, 1);
    fraction(x, "in lowest terms", x.odds(1, 9, 6), 1, 4);
    refusesAll("odds", i -> x.odds(i, 0, 0), -1, 2, MIN, MAX);
    refusesAll("paid", v -> x.odds(0, v, 0), -1, 41, MIN, MAX);
    refusesAll("of 12", p -> x.odds(0, 0, p), -1, 13, MIN, MAX);
    due("upper stays", x.upper(), 1);
    due("lower stays", x.lower(), 4);
  }

  private static void mid() {
    promise = 34;
    FiddleShares none = new FiddleShares();
    due("no kin", none.mid(0), STATE);
    refusesAll("mid without kin", none::mid, -1, 13, MIN, MAX);
    FiddleShares x = houseOf("k9000 k4000");
    fraction(x, "never overlooked", x.mid(0), 5, 1);
    fraction(x, "all overlooked", x.mid(12), 0, 1);
    fraction(x, "(9 * 5 + 3 * 9 + 3 * 4) / 16", x.mid(3), 21, 4);
    due("nothing done", x.count(2), 0);
    refusesAll("mid", x::mid, -1, 13, MIN, MAX);
  }

  private static void lots() {
    promise = 35;
    FiddleShares none = new FiddleShares();
    due("no kin", none.lots(1, 1), STATE);
    due("BAD ahead of STATE", none.lots(0, 1), BAD);
    FiddleShares x = houseOf("k9012 k5290 k3100");
    // 48271 is 3 modulo 4: a quarter; then 182605794 is 2: a quarter; then 1291394886 is 2
    due("purses together", x.lots(3, 1), 12 + 96 + 15);
    due("quarters", x.count(1), 3);
    due("deeds", x.count(2), 3);
    FiddleShares y = houseOf("k9012 k5290 k3100");
    // 4 * 48271 = 193084: 24135 modulo 3 is 0; its follower 730423176 is 0 modulo 4: 91302897 modulo 3 is 0
    due("soot twice", y.lots(2, 4), 102);
    due("whose", y.count(4), 1);
    due("how much", ask(y, 0, 4), 2);
    y.soot(0);
    y.lots(1, 4);
    due("3: washed", ask(y, 0, 4), 0);
    due("deeds", y.count(2), 4);
    // 3 * 48271 = 144813: 1 modulo 4, 18101 modulo 3 is 2
    y.soot(2);
    due("washed", y.lots(1, 3), 102);
    due("washed", y.count(4), 0);
    due("washed without soot", y.lots(1, 3), 102);
    due("a deed all the same", y.count(2), 7);
    due("undone one by one", y.undo(6), 1);
    FiddleShares full = houseOf("k9012 k5290 k3100");
    due("20", full.lots(20, 5) >= 0 ? 1 : 0, 1);
    due("18", full.lots(18, 5) >= 0 ? 1 : 0, 1);
    due("more than 40", full.lots(3, 5), FULL);
    due("nothing of it", full.count(2), 38);
    due("just 40", full.lots(2, LAST_SEED) >= 0 ? 1 : 0, 1);
    due("full", full.lots(1, 1), FULL);
    refusesAll("how many", n -> x.lots(n, 1), 0, -1, 21, MIN, MAX);
    refusesAll("seed", seed -> full.lots(1, seed), 0, -1, MIN, MAX);
  }

  private static final int LAST_SEED = 2147483646;

  private static void asked() {
    promise = 36;
    FiddleShares x = new FiddleShares();
    due("before", x.asked(), 0);
    write(x, 0, "k9012 k5290 k3100");
    x.house(0);
    rowOf(x, 0, 10, 20);
    due("lay", x.asked(), 0);
    x.at(0, 1);
    due("at", x.asked(), 20);
    x.mean(0);
    due("mean", x.asked(), 15);
    x.one(1, 3);
    due("one", x.asked(), 90);
    x.box();
    due("box", x.asked(), 0);
    x.later(2, 2);
    due("later", x.asked(), 12);
    x.settles();
    due("settles", x.asked(), 10);
    x.mill(99);
    due("mill", x.asked(), 5);
    x.lay(0, 1, 7);
    due("lay", x.asked(), 20);
    x.row(1, 0);
    x.test(0, 1);
    due("test", x.asked(), 2);
    x.at(0, 1);
    x.change(1);
    due("change that answered NONE", x.asked(), 7);
    x.quarter();
    x.soot(0);
    x.wash(0);
    x.gift(0, 1, 1);
    x.undo(0);
    x.keep(0);
    x.on(0);
    x.gains(3);
    x.even(0, 1, 3, 2);
    x.looks(0, 1);
    x.kinds(0, 1);
    x.duel(0, 1, 3);
    x.odds(0, 3, 3);
    x.mid(3);
    x.lots(3, 3);
    x.count(3);
    x.digest();
    x.mark(0, 1);
    x.regard(0, 0, 0);
    x.copy(0, 0, 0, 0, 0);
    x.put(0, 0, 1);
    x.fault(0);
    x.tear(0);
    x.house(0);
    x.finding();
    x.findings(1);
    due("the others leave it", x.asked(), 7);
  }

  private static void upperLower() {
    promise = 37;
    FiddleShares x = new FiddleShares();
    due("upper before", x.upper(), 0);
    x.mid(3);
    due("upper refused", x.upper(), 0);
    write(x, 0, "k9000 k4000");
    x.house(0);
    x.mid(3);
    due("upper by mid", x.upper(), 21);
    x.odds(0, 1, 3);
    due("upper by odds", x.upper(), 3);
    promise = 38;
    FiddleShares y = new FiddleShares();
    due("lower before", y.lower(), 1);
    due("lower by odds", x.lower(), 16);
    x.mid(3);
    due("lower by mid", x.lower(), 4);
    x.odds(0, 41, 3);
    x.mid(12);
    due("0 by 1", x.upper(), 0);
    due("0 by 1", x.lower(), 1);
  }

  private static void count() {
    promise = 39;
    FiddleShares x = houseOf("s9010 j8020 p7030 u6040 k5050 m4060");
    x.soot(5);
    x.soot(5);
    x.soot(1);
    x.quarter();
    x.row(0, 0);
    x.row(5, 4);
    x.text(3, 0);
    x.keep(1);
    int[] want = {6, 1, 4, 260, 34, 16, 2, 2, 1, 2, 2};
    for (int what = 0; what <= 10; what++) {
      due("count " + what, x.count(what), want[what]);
    }
    refusesAll("count", x::count, -1, 11, MIN, MAX);
    FiddleShares y = houseOf("j9099 j9099");
    due("sisters", y.count(9), 2);
    due("patched", y.count(10), 0);
    due("most", y.count(5), 22);
  }

  private static void finding() {
    promise = 40;
    FiddleShares x = new FiddleShares();
    due("before any", x.finding(), 0);
    x.at(0, 0);
    due("NOTHING", x.finding(), NOTHING);
    x.row(0, 0);
    x.at(0, 0);
    due("BEYOND", x.finding(), BEYOND);
    x.mean(0);
    due("NOUGHT", x.finding(), NOUGHT);
    x.row(0, -1);
    due("SIZE", x.finding(), SIZE);
    write(x, 0, "k9000 k4000");
    x.house(0);
    x.mark(0, 1);
    due("UNLIKE", x.finding(), UNLIKE);
    x.at(9, 0);
    x.quarter();
    x.wash(0);
    due("not by other refusals", x.finding(), UNLIKE);
  }

  private static void findings() {
    promise = 41;
    FiddleShares x = new FiddleShares();
    for (int f = 1; f <= 5; f++) {
      due("none of " + f, x.findings(f), 0);
    }
    for (int k = 0; k < 3; k++) {
      x.at(0, 0);
    }
    x.row(0, 0);
    x.at(0, 0);
    x.at(0, 0);
    x.mean(0);
    due("NOTHING", x.findings(1), 3);
    due("BEYOND", x.findings(2), 2);
    due("UNLIKE", x.findings(3), 0);
    due("NOUGHT", x.findings(4), 1);
    due("SIZE", x.findings(5), 0);
    refusesAll("findings", x::findings, 0, -1, 6, MIN, MAX);
  }

  private static long mixed(long... numbers) {
    long h = 17;
    for (long v : numbers) {
      h = 31 * h + v;
    }
    return h;
  }

  private static void digest() {
    promise = 42;
    due("new", new FiddleShares().digest(),
        mixed(0, 0, 0, 0, 0, 0, 0, 0, 0, 0, 0, -1, -1, -1, -1, -1, -1, -1, -1, -1, -1, -1, -1, -1));
    FiddleShares x = houseOf("s9110k4205");
    x.soot(1);
    x.keep(2);
    x.quarter();
    rowOf(x, 1, 7, -8);
    x.text(3, 2);
    x.put(3, 1, 200);
    long got = x.digest();
    due("digest", got, mixed(
        2, 1, 2, 19, 2, 9, 1, 2, 1, 1, 0,
        1, 9, 1, 9, 0, 9, 0, 0, 4, 2, 10, 1, 2, 7,
        -1, -1, 1,
        -1, 2, 7, -8, -1, -1, -1, -1,
        10, 's', '9', '1', '1', '0', 'k', '4', '2', '0', '5', -1, -1, 2, 32, -56));
    x.at(0, 0);
    due("findings are no part of it", x.digest(), got);
  }
}
