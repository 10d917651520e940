import java.lang.annotation.Retention;
import java.lang.annotation.RetentionPolicy;
import java.lang.reflect.Method;
import java.math.BigInteger;
import java.nio.file.Files;
import java.nio.file.Path;
import java.util.ArrayList;
import java.util.Arrays;
import java.util.Comparator;
import java.util.List;
import java.util.function.Consumer;
import java.util.function.IntUnaryOperator;
import java.util.function.Supplier;
import java.util.function.ToIntFunction;

/**
 * One method for each sentence of the document that names a boundary case. Of says which sentence it is: its promise
 * (0: the Terms) and its words, which are looked up in ../shared/DOC.md, so that a sentence that is no longer there
 * shows. All methods with Of are run; main needs no list of them.
 */
public final class EdgeTest {
  @Retention(RetentionPolicy.RUNTIME)
  private @interface Of {
    int promise();

    String says();
  }

  private static final int BAD = -1, FULL = -2, FINDING = -3, STATE = -4, SPENT = -6, NONE = -9;
  private static final int NOTHING = 1, BEYOND = 2, UNLIKE = 3, NOUGHT = 4, SIZE = 5;
  private static final int MIN = Integer.MIN_VALUE, MAX = Integer.MAX_VALUE;
  private static final int LAST_SEED = 2147483646;
  private static final String SIX = "k9012 s8123 m7234 p6305 j5456 u4507";

  private static final String DOCUMENT = "../shared/DOC.md";

  private static String now = "";
  private static int checks = 0;
  private static int wrong = 0;

  public static void main(String[] args) throws Exception {
    String document = Files.readString(Path.of(DOCUMENT));
    List<Method> tests = new ArrayList<>();
    for (Method m : EdgeTest.class.getDeclaredMethods()) {
      if (m.isAnnotationPresent(Of.class)) {
        tests.add(m);
      }
    }
    tests.sort(Comparator.comparingInt((Method m) -> m.getAnnotation(Of.class).promise()).thenComparing(Method::getName));
    boolean[] tested = new boolean[43];
    for (Method m : tests) {
      Of of = m.getAnnotation(Of.class);
      now = "promise " + of.promise() + ", " + m.getName() + " (" + of.says() + ")";
      tested[of.promise()] = true;
      due("the sentence stands in the document", section(document, of.promise()).contains(of.says()) ? 1 : 0, 1);
      int before = checks;
      m.invoke(null);
      due("the test looks at something", checks > before ? 1 : 0, 1);
    }
    now = "all promises";
    for (int p = 0; p <= 42; p++) {
      due("promise " + p + " has a sentence tested", tested[p] ? 1 : 0, 1);
    }
    System.out.println(tests.size() + " sentences, " + checks + " checks, " + wrong + " wrong");
    if (wrong != 0) {
      System.exit(1);
    }
  }

  private static String section(String document, int promise) {
    String head = promise == 0 ? "## Terms" : "## Promise " + promise + ":";
    int from = document.indexOf(head);
    int to = from < 0 ? -1 : document.indexOf("\n## ", from);
    return from < 0 ? "" : document.substring(from, to < 0 ? document.length() : to);
  }

  // ---- how it is checked

  private static void due(String what, long got, long want) {
    checks++;
    if (got != want) {
      wrong++;
      System.out.println(now + ": " + what + " answered " + got + ", due is " + want);
    }
  }

  private static void told(FiddleShares x, String what, int answer, int asked) {
    due(what, answer, 1);
    due(what + ", asked", x.asked(), asked);
  }

  private static void both(FiddleShares x, String what, int got, int want, int asked) {
    due(what, got, want);
    due(what + ", asked", x.asked(), asked);
  }

  /** Answered is FINDING, finding() tells this one, and it alone is counted once more. */
  private static void found(FiddleShares x, String what, ToIntFunction<FiddleShares> call, int finding) {
    int[] before = new int[6];
    for (int f = 1; f <= 5; f++) {
      before[f] = x.findings(f);
    }
    due(what, call.applyAsInt(x), FINDING);
    due(what + ", finding", x.finding(), finding);
    for (int f = 1; f <= 5; f++) {
      due(what + ", findings " + f, x.findings(f), before[f] + (f == finding ? 1 : 0));
    }
  }

  private static void allBad(String what, IntUnaryOperator call, int... numbers) {
    for (int v : numbers) {
      due(what + " " + v, call.applyAsInt(v), BAD);
    }
  }

  private static void noneBad(String what, IntUnaryOperator call, int... numbers) {
    for (int v : numbers) {
      due(what + " " + v + " is none such", call.applyAsInt(v) == BAD ? 1 : 0, 0);
    }
  }

  /** The least and the most are taken, one below, one above and the far ends are BAD. */
  private static void range(String what, IntUnaryOperator call, int least, int most) {
    noneBad(what, call, least, most);
    allBad(what, call, least - 1, most + 1, MIN, MAX);
  }

  private static void chance(FiddleShares x, String what, int answer, long upper, long lower) {
    due(what, answer, 1);
    due(what + ", upper", x.upper(), upper);
    due(what + ", lower", x.lower(), lower);
  }

  private static void write(FiddleShares x, int t, String text) {
    x.text(t, text.length());
    for (int i = 0; i < text.length(); i++) {
      if (text.charAt(i) != ' ') {
        x.put(t, i, text.charAt(i));
      }
    }
  }

  private static FiddleShares houseOf(String text) {
    FiddleShares x = new FiddleShares();
    write(x, 0, text);
    due("house " + text, x.house(0), text.replace(" ", "").length() / 5);
    return x;
  }

  private static FiddleShares rowOf(FiddleShares x, int r, int... ints) {
    x.row(r, ints.length);
    for (int i = 0; i < ints.length; i++) {
      x.lay(r, i, ints[i]);
    }
    return x;
  }

  private static int faultOf(String text) {
    FiddleShares x = new FiddleShares();
    write(x, 1, text);
    int fault = x.fault(1);
    due("house by '" + text + "'", x.house(1), fault == NONE ? x.count(0) : STATE);
    return fault;
  }

  private static int ask(FiddleShares x, int i, int what) {
    return x.one(i, what) == 1 ? x.asked() : MIN;
  }

  private static int place(FiddleShares x, int r, int i) {
    return x.at(r, i) == 1 ? x.asked() : MIN;
  }

  private static void rowIs(FiddleShares x, String what, int r, int... want) {
    for (int i = 0; i < want.length; i++) {
      due(what + ", place " + i, place(x, r, i), want[i]);
    }
    due(what + ", no place more", x.at(r, want.length), FINDING);
  }

  private static FiddleShares quarters(FiddleShares x, int n) {
    for (int k = 0; k < n; k++) {
      x.quarter();
    }
    return x;
  }

  private static FiddleShares soot(FiddleShares x, int i, int n) {
    for (int k = 0; k < n; k++) {
      x.soot(i);
    }
    return x;
  }

  /** A HOUSE with 40 DEEDS: the first one has 3 of SOOT, the second one 1, the third one none, a PURSE of 0. */
  private static FiddleShares forty() {
    FiddleShares x = houseOf("k0000 k0099 k0000");
    soot(x, 0, 3);
    soot(x, 1, 1);
    quarters(x, 36);
    due("40 deeds", x.count(2), 40);
    return x;
  }

  /** All that can be told of an object, what was kept and what can be undone, too. It is used up by that. */
  private static List<Long> allOf(FiddleShares x) {
    List<Long> all = new ArrayList<>(List.of(x.digest(), (long) x.asked(), x.upper(), x.lower()));
    for (int n = x.count(2); n >= 0; n--) {
      all.add((long) x.undo(n));
      all.add(x.digest());
    }
    for (int k = 0; k < 3; k++) {
      all.add((long) x.on(k));
      for (int n = x.count(2); n >= 0; n -= 3) {
        all.add((long) x.undo(n));
        all.add(x.digest());
      }
    }
    return all;
  }

  /** The call is refused so, and the object is then as one of which it was never asked. */
  private static void changesNothing(Supplier<FiddleShares> make, String what, ToIntFunction<FiddleShares> call, int want) {
    FiddleShares x = make.get();
    FiddleShares twin = make.get();
    due(what, call.applyAsInt(x), want);
    if (want != FINDING) {
      due(what + ": finding", x.finding(), twin.finding());
      for (int f = 1; f <= 5; f++) {
        due(what + ": findings " + f, x.findings(f), twin.findings(f));
      }
    }
    due(what + ": all else is as it was", allOf(x).equals(allOf(twin)) ? 1 : 0, 1);
  }

  /** ROWS, TEXTS, DEEDS, a kept HOUSE, things told: so that a change would show. */
  private static FiddleShares busy() {
    FiddleShares x = houseOf(SIX);
    rowOf(x, 0, 7, 8, 9);
    rowOf(x, 1, 5);
    x.row(2, 0);
    rowOf(x, 4, 100, 5);
    write(x, 1, "k1234 k");
    x.soot(1);
    x.quarter();
    x.keep(1);
    soot(x, 0, 3);
    x.gift(4, 3, 7);
    x.mid(5);
    x.at(0, 1);
    x.tear(5);
    return x;
  }

  // ---- Terms: how calls are refused

  @Of(promise = 0, says = "Refused is, the first of these that fits, in this order: BAD -1")
  private static void badAheadOfStateWithoutKin() {
    FiddleShares x = new FiddleShares();
    due("keep", x.keep(3), BAD);
    due("mill", x.mill(100), BAD);
    due("gains", x.gains(0), BAD);
    due("change", x.change(21), BAD);
    due("mid", x.mid(13), BAD);
    due("lots", x.lots(0, 1), BAD);
    due("lots", x.lots(1, 0), BAD);
  }

  @Of(promise = 0, says = "BAD -1 (a number that is none, or not as told), FULL -2, STATE -4 (not now)")
  private static void badAheadOfFull() {
    FiddleShares x = forty();
    due("soot", x.soot(3), BAD);
    due("wash", x.wash(-1), BAD);
    due("gift", x.gift(1, 1, 1), BAD);
    due("gift", x.gift(1, 2, 100), BAD);
    due("lots", x.lots(21, 1), BAD);
    due("lots", x.lots(1, MAX), BAD);
  }

  @Of(promise = 0, says = "SPENT -6 (more than told), FINDING -3 (finding() tells which)")
  private static void badAheadOfFindings() {
    FiddleShares x = houseOf("k9000 k4000");
    due("row", x.row(6, -1), BAD);
    due("copy", x.copy(6, 0, 0, 0, -1), BAD);
    due("text", x.text(4, -1), BAD);
    due("mark", x.mark(0, 6), BAD);
    due("looks", x.looks(2, 0), BAD);
    due("on", x.on(3), BAD);
    due("no finding by these", x.finding(), 0);
  }

  @Of(promise = 0, says = "in this order: BAD -1 (a number that is none, or not as told), FULL -2, STATE -4 (not now), "
      + "SPENT -6 (more than told), FINDING -3 (finding() tells which), unless a call says so otherwise. NONE -9.")
  private static void theNumbersOfRefusals() {
    due("BAD", FiddleShares.BAD, BAD);
    due("FULL", FiddleShares.FULL, FULL);
    due("STATE", FiddleShares.STATE, STATE);
    due("SPENT", FiddleShares.SPENT, SPENT);
    due("FINDING", FiddleShares.FINDING, FINDING);
    due("NONE", FiddleShares.NONE, NONE);
  }

  @Of(promise = 0, says = "What is refused changes nothing but finding(), findings()")
  private static void badChangesNothing() {
    Supplier<FiddleShares> make = EdgeTest::busy;
    changesNothing(make, "row number", x -> x.row(6, 3), BAD);
    changesNothing(make, "row size", x -> x.row(0, 41), BAD);
    changesNothing(make, "lay", x -> x.lay(-1, 0, 3), BAD);
    changesNothing(make, "at", x -> x.at(6, 0), BAD);
    changesNothing(make, "tear", x -> x.tear(6), BAD);
    changesNothing(make, "copy", x -> x.copy(0, 0, 6, 0, 1), BAD);
    changesNothing(make, "mean", x -> x.mean(6), BAD);
    changesNothing(make, "text number", x -> x.text(4, 3), BAD);
    changesNothing(make, "text size", x -> x.text(0, 61), BAD);
    changesNothing(make, "put", x -> x.put(4, 0, 3), BAD);
    changesNothing(make, "fault", x -> x.fault(4), BAD);
    changesNothing(make, "house", x -> x.house(-1), BAD);
    changesNothing(make, "one", x -> x.one(0, 7), BAD);
    changesNothing(make, "one of none", x -> x.one(6, 0), BAD);
    changesNothing(make, "mark", x -> x.mark(1, 0), BAD);
    changesNothing(make, "regard", x -> x.regard(1, 4, 0), BAD);
    changesNothing(make, "soot", x -> x.soot(6), BAD);
    changesNothing(make, "wash", x -> x.wash(6), BAD);
    changesNothing(make, "gift", x -> x.gift(4, 4, 1), BAD);
    changesNothing(make, "undo", x -> x.undo(7), BAD);
    changesNothing(make, "keep", x -> x.keep(3), BAD);
    changesNothing(make, "on", x -> x.on(-1), BAD);
    changesNothing(make, "later", x -> x.later(0, 61), BAD);
    changesNothing(make, "mill", x -> x.mill(100), BAD);
    changesNothing(make, "gains", x -> x.gains(41), BAD);
    changesNothing(make, "even", x -> x.even(0, 1, 21, 0), BAD);
    changesNothing(make, "change", x -> x.change(0), BAD);
    changesNothing(make, "looks", x -> x.looks(0, 6), BAD);
    changesNothing(make, "kinds", x -> x.kinds(0, 6), BAD);
    changesNothing(make, "test", x -> x.test(6, 0), BAD);
    changesNothing(make, "duel", x -> x.duel(0, 1, 7), BAD);
    changesNothing(make, "odds", x -> x.odds(0, 41, 3), BAD);
    changesNothing(make, "mid", x -> x.mid(-1), BAD);
    changesNothing(make, "lots", x -> x.lots(21, 1), BAD);
    changesNothing(make, "count", x -> x.count(11), BAD);
    changesNothing(make, "findings", x -> x.findings(0), BAD);
  }

  @Of(promise = 0, says = "What is refused changes nothing but finding(), findings()")
  private static void fullChangesNothing() {
    changesNothing(EdgeTest::forty, "quarter", FiddleShares::quarter, FULL);
    changesNothing(EdgeTest::forty, "soot", x -> x.soot(2), FULL);
    changesNothing(EdgeTest::forty, "wash", x -> x.wash(1), FULL);
    changesNothing(EdgeTest::forty, "gift", x -> x.gift(1, 0, 9), FULL);
    changesNothing(EdgeTest::forty, "lots", x -> x.lots(1, 1), FULL);
    Supplier<FiddleShares> almost = () -> {
      FiddleShares x = forty();
      x.undo(35);
      return x;
    };
    changesNothing(almost, "lots, not even those for which there is room", x -> x.lots(6, 4), FULL);
  }

  @Of(promise = 0, says = "What is refused changes nothing but finding(), findings()")
  private static void stateChangesNothing() {
    Supplier<FiddleShares> make = EdgeTest::busy;
    changesNothing(make, "house by a fault", x -> x.house(1), STATE);
    changesNothing(make, "soot", x -> x.soot(0), STATE);
    changesNothing(make, "wash", x -> x.wash(5), STATE);
    changesNothing(make, "gift", x -> x.gift(0, 1, 99), STATE);
    Supplier<FiddleShares> none = () -> rowOf(new FiddleShares(), 0, 7, 8);
    changesNothing(none, "quarter", FiddleShares::quarter, STATE);
    changesNothing(none, "keep", x -> x.keep(0), STATE);
    changesNothing(none, "box", FiddleShares::box, STATE);
    changesNothing(none, "settles", FiddleShares::settles, STATE);
    changesNothing(none, "mill", x -> x.mill(0), STATE);
    changesNothing(none, "gains", x -> x.gains(1), STATE);
    changesNothing(none, "change", x -> x.change(1), STATE);
    changesNothing(none, "mid", x -> x.mid(3), STATE);
    changesNothing(none, "lots", x -> x.lots(1, 1), STATE);
  }

  @Of(promise = 0, says = "What is refused changes nothing but finding(), findings()")
  private static void findingChangesNothingElse() {
    Supplier<FiddleShares> make = EdgeTest::busy;
    changesNothing(make, "row", x -> x.row(0, -1), FINDING);
    changesNothing(make, "lay, missing", x -> x.lay(3, 0, 1), FINDING);
    changesNothing(make, "lay, beyond", x -> x.lay(0, 3, 1), FINDING);
    changesNothing(make, "at, missing", x -> x.at(3, 0), FINDING);
    changesNothing(make, "at, beyond", x -> x.at(0, -1), FINDING);
    changesNothing(make, "tear", x -> x.tear(3), FINDING);
    changesNothing(make, "copy, size", x -> x.copy(0, 0, 1, 0, -1), FINDING);
    changesNothing(make, "copy, missing", x -> x.copy(0, 0, 3, 0, 1), FINDING);
    changesNothing(make, "copy, beyond there: not even those for which there is room", x -> x.copy(0, 1, 1, 0, 2), FINDING);
    changesNothing(make, "mean, missing", x -> x.mean(3), FINDING);
    changesNothing(make, "mean, of none", x -> x.mean(2), FINDING);
    changesNothing(make, "text", x -> x.text(0, -1), FINDING);
    changesNothing(make, "put, missing", x -> x.put(3, 0, 1), FINDING);
    changesNothing(make, "put, beyond", x -> x.put(1, 7, 1), FINDING);
    changesNothing(make, "fault", x -> x.fault(3), FINDING);
    changesNothing(make, "house", x -> x.house(3), FINDING);
    changesNothing(make, "mark", x -> x.mark(0, 1), FINDING);
    changesNothing(make, "on", x -> x.on(0), FINDING);
    changesNothing(make, "looks, missing", x -> x.looks(0, 3), FINDING);
    changesNothing(make, "kinds, no pairs", x -> x.kinds(0, 1), FINDING);
    changesNothing(make, "test, a number that is none", x -> x.test(0, 4), FINDING);
  }

  @Of(promise = 0, says = "1 NOTHING (a ROW, a TEXT, a kept HOUSE that is missing)")
  private static void findingNothing() {
    FiddleShares x = houseOf("k9000 k4000");
    found(x, "lay", y -> y.lay(0, 0, 1), NOTHING);
    found(x, "at", y -> y.at(5, 0), NOTHING);
    found(x, "tear", y -> y.tear(0), NOTHING);
    found(x, "copy from", y -> y.copy(0, 0, 0, 0, 0), NOTHING);
    found(x, "mean", y -> y.mean(0), NOTHING);
    found(x, "put", y -> y.put(3, 0, 1), NOTHING);
    found(x, "fault", y -> y.fault(1), NOTHING);
    found(x, "house", y -> y.house(2), NOTHING);
    found(x, "on", y -> y.on(0), NOTHING);
    found(x, "looks", y -> y.looks(0, 0), NOTHING);
    found(x, "kinds", y -> y.kinds(0, 0), NOTHING);
    found(x, "test", y -> y.test(0, 0), NOTHING);
  }

  @Of(promise = 0, says = "2 BEYOND (a place that there is not)")
  private static void findingBeyond() {
    FiddleShares x = rowOf(new FiddleShares(), 0, 1, 2);
    x.text(0, 2);
    found(x, "lay", y -> y.lay(0, 2, 1), BEYOND);
    found(x, "at", y -> y.at(0, 2), BEYOND);
    found(x, "copy", y -> y.copy(0, 0, 0, 1, 2), BEYOND);
    found(x, "put", y -> y.put(0, 2, 1), BEYOND);
  }

  @Of(promise = 0, says = "3 UNLIKE (one of another KIND; a number that is none)")
  private static void findingUnlike() {
    FiddleShares x = rowOf(houseOf("k9000 k4000"), 0, 0, 31);
    found(x, "mark", y -> y.mark(0, 1), UNLIKE);
    found(x, "looks", y -> y.looks(0, 0), UNLIKE);
    found(x, "kinds", y -> y.kinds(0, 0), UNLIKE);
    found(x, "test", y -> y.test(0, 0), UNLIKE);
  }

  @Of(promise = 0, says = "4 NOUGHT (shared among none)")
  private static void findingNought() {
    FiddleShares x = rowOf(new FiddleShares(), 0);
    found(x, "mean", y -> y.mean(0), NOUGHT);
  }

  @Of(promise = 0, says = "5 SIZE (fewer than none; not as many as due)")
  private static void findingSize() {
    FiddleShares x = rowOf(houseOf("k9000 k4000"), 0, 9);
    found(x, "row", y -> y.row(0, -1), SIZE);
    found(x, "text", y -> y.text(0, -1), SIZE);
    found(x, "copy", y -> y.copy(0, 0, 0, 0, -1), SIZE);
    found(x, "looks", y -> y.looks(0, 0), SIZE);
    found(x, "kinds", y -> y.kinds(0, 0), SIZE);
    found(x, "test", y -> y.test(0, 0), SIZE);
  }

  @Of(promise = 0, says = "Chances, means are told by upper(), lower(), in lowest terms")
  private static void lowestTerms() {
    FiddleShares x = houseOf("k9000 k4000");
    chance(x, "36 of 144", x.odds(1, 9, 6), 1, 4);
    chance(x, "108 of 144", x.odds(1, 5, 3), 3, 4);
    chance(x, "11 of 144", x.odds(1, 9, 1), 11, 144);
    chance(x, "144 of 144", x.odds(1, 0, 7), 1, 1);
    chance(x, "756 of 144", x.mid(3), 21, 4);
    chance(x, "720 of 144", x.mid(0), 5, 1);
  }

  @Of(promise = 0, says = "the lower number above 0 (0 by 1)")
  private static void noughtByOne() {
    FiddleShares x = houseOf("k9000 k4000");
    x.odds(1, 9, 6);
    chance(x, "no chance", x.odds(1, 10, 6), 0, 1);
    x.odds(1, 9, 6);
    chance(x, "no chance, all overlooked", x.odds(1, 1, 12), 0, 1);
    x.mid(3);
    chance(x, "a box that gives nothing", x.mid(12), 0, 1);
    FiddleShares y = houseOf("k0000 k0000");
    chance(y, "nobody is looked at", y.mid(5), 0, 1);
  }

  @Of(promise = 0, says = "Sets (of KIN, KINDS, numbers 0 .. 9) are told by bits")
  private static void setsByBits() {
    FiddleShares x = houseOf("k9000 k9000 k9000 k9000 k9000 k9000");
    x.soot(0);
    x.soot(5);
    due("kin with soot: the first and the last", x.count(4), 1 | 32);
    due("who gains: the last, all others' purses are full",
        houseOf("k9099 k9099 k9099 k9099 k9099 k9000").gains(1), 32);
    due("who gains: the first", houseOf("k9000 k9099 k9099").gains(1), 1);
    x.row(0, 0);
    due("all kinds", x.kinds(0, 0), 63);
    due("all numbers", x.looks(0, 0), 1023);
    due("the greatest number", rowOf(x, 0, 0, 9).looks(1, 0), 512);
    due("the least number", rowOf(x, 0, 0, 0).looks(1, 0), 1);
    due("the greatest kind", rowOf(x, 0, 0, 4).kinds(1, 0), 32);
    due("the least three kinds", rowOf(x, 0, 0, 9).kinds(1, 0), 7);
  }

  // ---- Terms: rows, texts, houses

  @Of(promise = 0, says = "ROWS 0 .. 5 are rows of 0 to 40 ints")
  private static void allRowsAtTheirLongest() {
    FiddleShares x = new FiddleShares();
    for (int r = 0; r <= 5; r++) {
      due("row " + r, x.row(r, 40), 40);
      due("its last place", x.lay(r, 39, 100 + r), 1);
    }
    for (int r = 0; r <= 5; r++) {
      due("each holds its own", place(x, r, 39), 100 + r);
      due("each holds its own", place(x, r, 0), 0);
    }
    due("rows", x.count(6), 6);
    range("row", r -> x.row(r, 0), 0, 5);
  }

  @Of(promise = 0, says = "TEXTS 0 .. 3 rows of 0 to 60 bytes")
  private static void allTextsAtTheirLongest() {
    FiddleShares x = new FiddleShares();
    for (int t = 0; t <= 3; t++) {
      due("text " + t, x.text(t, 60), 60);
      due("its last byte", x.put(t, 59, 100 + t), 1032);
    }
    for (int t = 0; t <= 3; t++) {
      due("each holds its own", x.put(t, 59, 0), 1100 + t);
      due("each holds its own", x.put(t, 0, 0), 1032);
    }
    due("texts", x.count(7), 4);
    range("text", t -> x.text(t, 0), 0, 3);
  }

  @Of(promise = 0, says = "or missing (at first)")
  private static void missingAtFirst() {
    FiddleShares x = new FiddleShares();
    for (int r = 0; r <= 5; r++) {
      due("row " + r, x.tear(r), FINDING);
    }
    for (int t = 0; t <= 3; t++) {
      due("text " + t, x.fault(t), FINDING);
    }
    due("findings", x.findings(NOTHING), 10);
    due("an empty row is there", x.row(0, 0) + x.count(6), 1);
    due("an empty text is there", x.text(0, 0) + x.count(7), 1);
  }

  @Of(promise = 0, says = "A HOUSE (without KIN at first)")
  private static void withoutKinAtFirst() {
    FiddleShares x = new FiddleShares();
    due("kin", x.count(0), 0);
    due("the first one", x.one(0, 0), BAD);
    due("a text alone is no house", x.text(0, 10) + x.count(0), 10);
  }

  @Of(promise = 0, says = "blanks (32) ahead, between, behind as many as wanted")
  private static void blanksAsManyAsWanted() {
    due("none", faultOf("k0000s0000"), NONE);
    due("50 ahead", faultOf(" ".repeat(50) + "k0000s0000"), NONE);
    due("50 between", faultOf("k0000" + " ".repeat(50) + "s0000"), NONE);
    due("50 behind", faultOf("k0000s0000" + " ".repeat(50)), NONE);
    due("one each", faultOf(" k0000 s0000 "), NONE);
    due("six with 30", faultOf("     k0000     s0000     m0000     p0000     j0000     u0000"), NONE);
    for (int v : new int[] {9, 10, 31, 33, 0, -96, 160}) {
      FiddleShares x = new FiddleShares();
      write(x, 0, "k0000 s0000");
      x.put(0, 5, v);
      due("a byte " + v + " is no blank", x.fault(0), 5);
    }
  }

  @Of(promise = 0, says = "none within items")
  private static void noBlankWithinItems() {
    for (int at = 1; at <= 4; at++) {
      String first = "k0000".substring(0, at) + " " + "k0000".substring(at);
      due("within the first, place " + at, faultOf(first + "s0000"), at);
      due("within the last, place " + at, faultOf("s0000" + first), 5 + at);
    }
  }

  @Of(promise = 0, says = "KIN (2 to 6; 0, 1, .. as they come)")
  private static void twoToSixKin() {
    due("one", faultOf("k0000"), 5);
    due("two", faultOf("k0000k0000"), NONE);
    due("six", faultOf("k0000k0000k0000k0000k0000k0000"), NONE);
    due("seven", faultOf("k0000k0000k0000k0000k0000k0000k0000"), 30);
    FiddleShares x = houseOf("k1000 k2000 k3000 k4000 k5000 k6000");
    for (int i = 0; i < 6; i++) {
      due("number " + i, ask(x, i, 1), i + 1);
    }
    due("there is no number 6", x.one(6, 1), BAD);
    FiddleShares two = houseOf("k1000 k2000");
    due("of two there is no number 2", two.one(2, 1), BAD);
    due("nor is there one behind a greater house", houseOf(SIX).one(6, 0), BAD);
    write(x, 1, "k7000 k8000");
    x.house(1);
    due("two behind six", x.one(2, 1), BAD);
  }

  @Of(promise = 0, says = "how LOOKED at (0 .. 9), what one WANTS (0 .. 9; one figure each), the PURSE (two figures 00 .. 99)")
  private static void figuresAtLeastAndMost() {
    FiddleShares x = houseOf("k0000 k9999 k0900 k9009 k0990");
    int[][] want = {{0, 0, 0}, {9, 9, 99}, {0, 9, 0}, {9, 0, 9}, {0, 9, 90}};
    for (int i = 0; i < want.length; i++) {
      for (int what = 1; what <= 3; what++) {
        due("one " + i + ", " + what, ask(x, i, what), want[i][what - 1]);
      }
    }
  }

  @Of(promise = 0, says = "a letter, a figure that is none such")
  private static void everyByteForALetter() {
    for (int v = 0; v < 256; v++) {
      FiddleShares x = new FiddleShares();
      write(x, 0, "k0000m0000 k0000");
      x.put(0, 5, v);
      int want = v == 32 ? 6 : v < 128 && "ksmpju".indexOf(v) >= 0 ? NONE : 5;
      due("byte " + v + " for a letter", x.fault(0), want);
    }
  }

  @Of(promise = 0, says = "a letter, a figure that is none such")
  private static void everyByteForAFigure() {
    for (int at = 6; at <= 9; at++) {
      for (int v = 0; v < 256; v++) {
        FiddleShares x = new FiddleShares();
        write(x, 0, "k0000m0000");
        x.put(0, at, v);
        due("byte " + v + " for a figure at " + at, x.fault(0), v >= 48 && v <= 57 ? NONE : at);
      }
    }
  }

  @Of(promise = 0, says = "a seventh one: its place")
  private static void aSeventhOne() {
    String six = "k0000s0000m0000p0000j0000u0000";
    due("at once", faultOf(six + "k0000"), 30);
    due("behind blanks", faultOf(six + "    k0000"), 34);
    due("ahead of the fault that it has", faultOf(six + " k0x00"), 31);
    due("ahead of the end that comes too early", faultOf(six + " k0"), 31);
    due("blanks alone are none", faultOf(six + " ".repeat(30)), NONE);
  }

  @Of(promise = 0, says = "the TEXT's size, if its end comes too early")
  private static void anEndTooEarly() {
    String two = "k0000 s9999";
    for (int size = 7; size <= 10; size++) {
      due("cut to " + size, faultOf(two.substring(0, size)), size);
    }
    for (int size = 1; size <= 4; size++) {
      due("cut to " + size, faultOf(two.substring(0, size)), size);
    }
    due("the sixth one cut", faultOf("k0000s0000m0000p0000j0000u000"), 29);
    due("at the longest", faultOf("k0000" + " ".repeat(51) + "s999"), 60);
    FiddleShares x = new FiddleShares();
    write(x, 0, two);
    x.text(0, 10);
    for (int i = 0; i < 10; i++) {
      x.put(0, i, two.charAt(i));
    }
    due("what a longer text had there does not count", x.fault(0), 10);
  }

  @Of(promise = 0, says = "or there are less than 2 KIN")
  private static void lessThanTwoKin() {
    due("one", faultOf("k0000"), 5);
    due("one, blanks ahead", faultOf("   k0000"), 8);
    due("one, blanks behind", faultOf("k0000   "), 8);
    due("one at the longest", faultOf("k0000" + " ".repeat(55)), 60);
  }

  @Of(promise = 0, says = "or blanks alone")
  private static void blanksAlone() {
    due("one", faultOf(" "), 1);
    due("60", faultOf(" ".repeat(60)), 60);
    due("not even these", faultOf(""), 0);
  }

  @Of(promise = 0, says = "A FAULT is the first place at which it can't go on so")
  private static void theFirstOfTwoFaults() {
    due("a letter, then a figure", faultOf("x0000 k0x00"), 0);
    due("a figure, then a letter", faultOf("k0x00 x0000"), 2);
    due("a figure, then the end", faultOf("k0000 k0x0"), 8);
    due("less than 2 and a letter", faultOf("k0000 x"), 6);
  }

  @Of(promise = 0, says = "0 KIN (k, 107), 1 SISTER (s, 115; a KIN), 2 MILLER (m, 109; a KIN), 3 PATCHED (p, 112; a KIN), "
      + "4 JULIA (j, 106; a SISTER), 5 UNLISTED (u, 117; a PATCHED one)")
  private static void kindsByLetters() {
    int[] letters = {107, 115, 109, 112, 106, 117};
    FiddleShares x = new FiddleShares();
    x.text(0, 30);
    for (int i = 0; i < 30; i++) {
      x.put(0, i, i % 5 == 0 ? letters[i / 5] : 48);
    }
    due("house", x.house(0), 6);
    for (int kind = 0; kind < 6; kind++) {
      due("kind " + kind, ask(x, kind, 0), kind);
    }
    due("sisters, a julia, too", x.count(9), 2);
    due("patched ones, an unlisted one, too", x.count(10), 2);
    for (String great : "KSMPJU".split("")) {
      due("a great letter " + great, faultOf(great + "0000 k0000"), 0);
    }
  }

  @Of(promise = 0, says = "rows of 0 to 40 ints")
  private static void everyCallOnAnEmptyRow() {
    FiddleShares x = houseOf("k5000 k3000");
    due("row", x.row(0, 0), 0);
    found(x, "lay", y -> y.lay(0, 0, 1), BEYOND);
    found(x, "at", y -> y.at(0, 0), BEYOND);
    due("copy of none", x.copy(0, 0, 0, 0, 0), 1);
    found(x, "copy of one", y -> y.copy(0, 0, 0, 0, 1), BEYOND);
    found(x, "copy of none from behind it", y -> y.copy(0, 1, 0, 0, 0), BEYOND);
    found(x, "mean", y -> y.mean(0), NOUGHT);
    due("looks", x.looks(0, 0), 1023);
    due("kinds", x.kinds(0, 0), 63);
    both(x, "test", x.test(0, 0), 20, 2);
    due("rows", x.count(6), 1);
    due("tear", x.tear(0), 1);
    due("rows", x.count(6), 0);
  }

  @Of(promise = 0, says = "rows of 0 to 60 bytes")
  private static void everyCallOnAnEmptyText() {
    FiddleShares x = houseOf("k5000 k3000");
    due("text", x.text(0, 0), 0);
    found(x, "put", y -> y.put(0, 0, 1), BEYOND);
    due("fault: its size", x.fault(0), 0);
    due("house", x.house(0), STATE);
    due("the house stays", x.count(0), 2);
    due("texts", x.count(7), 1);
  }

  // ---- Terms: how one is regarded

  @Of(promise = 0, says = "less 2 for each of SOOT (0 at least)")
  private static void lookedAtLessSoot() {
    int[][] want = {{0, 0, 0, 0}, {1, 0, 0, 0}, {2, 0, 0, 0}, {3, 1, 0, 0}, {4, 2, 0, 0},
        {5, 3, 1, 0}, {6, 4, 2, 0}, {7, 5, 3, 1}, {8, 6, 4, 2}, {9, 7, 5, 3}};
    for (int look = 0; look <= 9; look++) {
      FiddleShares x = houseOf("k" + look + "000 k0000");
      for (int s = 0; s <= 3; s++) {
        due("looked at " + look + " with " + s + " of soot", x.regard(0, s, 99), want[look][s]);
      }
    }
  }

  @Of(promise = 0, says = "a SISTER 2 more than that, if the PURSE is 20 or more")
  private static void aSisterWith20() {
    FiddleShares x = houseOf("s5000 s0000");
    due("19", x.regard(0, 0, 19), 5);
    due("20", x.regard(0, 0, 20), 7);
    due("99", x.regard(0, 0, 99), 7);
    due("0", x.regard(0, 0, 0), 5);
    due("more than nothing left by soot", x.regard(0, 3, 20), 2);
    due("soot alone", x.regard(0, 3, 19), 0);
    due("not looked at", x.regard(1, 0, 20), 2);
    due("1 left by soot", x.regard(0, 2, 20), 3);
  }

  @Of(promise = 0, says = "a MILLER 1 more for each whole 10 of the PURSE (9 at most more)")
  private static void aMillerByTens() {
    FiddleShares x = houseOf("m5000 m9000");
    for (int purse = 0; purse <= 99; purse++) {
      int tens = Integer.parseInt(String.format("%02d", purse).substring(0, 1));
      due("purse " + purse, x.regard(0, 0, purse), 5 + tens);
    }
    due("soot does not reach what the purse gives", x.regard(0, 3, 99), 9);
    due("9 at most more", x.regard(1, 0, 99), 18);
  }

  @Of(promise = 0, says = "a PATCHED one 1 less, if the PURSE is below 10 (0 at least)")
  private static void aPatchedOneBelow10() {
    FiddleShares x = houseOf("p5000 p1000 p0000");
    due("0", x.regard(0, 0, 0), 4);
    due("9", x.regard(0, 0, 9), 4);
    due("10", x.regard(0, 0, 10), 5);
    due("99", x.regard(0, 0, 99), 5);
    due("1 less 1", x.regard(1, 0, 9), 0);
    due("1", x.regard(1, 0, 10), 1);
    due("0 at least", x.regard(2, 0, 9), 0);
    due("0 at least, by soot", x.regard(0, 3, 9), 0);
  }

  @Of(promise = 0, says = "a JULIA twice as much as a SISTER")
  private static void aJuliaTwice() {
    FiddleShares x = houseOf("j5000 j9000 j0000");
    due("19", x.regard(0, 0, 19), 10);
    due("20: the 2 more count twice, too", x.regard(0, 0, 20), 14);
    due("soot counts twice, too", x.regard(0, 1, 19), 6);
    due("nothing left", x.regard(0, 3, 19), 0);
    due("the most that can be", x.regard(1, 0, 99), 22);
    due("not looked at, 20", x.regard(2, 0, 20), 4);
  }

  @Of(promise = 0, says = "an UNLISTED one half (cut) as much as a PATCHED one")
  private static void anUnlistedOneHalf() {
    FiddleShares x = houseOf("u5000 u4000 u1000 u0000");
    due("4", x.regard(0, 0, 9), 2);
    due("5, cut", x.regard(0, 0, 10), 2);
    due("3, cut", x.regard(1, 0, 9), 1);
    due("4", x.regard(1, 0, 10), 2);
    due("1, cut", x.regard(2, 0, 10), 0);
    due("0", x.regard(2, 0, 9), 0);
    due("0, less 1: 0 at least", x.regard(3, 0, 0), 0);
  }

  // ---- Terms: quarters, deeds

  @Of(promise = 0, says = "QUARTER 0 it is at first, there is no SOOT")
  private static void quarter0AtFirst() {
    due("without kin", new FiddleShares().count(1), 0);
    FiddleShares x = houseOf(SIX);
    due("quarter", x.count(1), 0);
    due("soot", x.count(4), 0);
    due("soot of one", ask(x, 0, 4), 0);
  }

  @Of(promise = 0, says = "Each is PAID as much as the one who is REGARDED most is more REGARDED than one is oneself")
  private static void paidTheDifference() {
    FiddleShares x = houseOf("k9000 k9000 k8000 k0000");
    int[] want = {0, 0, 1, 9};
    for (int i = 0; i < 4; i++) {
      due("paid " + i, ask(x, i, 6), want[i]);
    }
    FiddleShares alike = houseOf("k5000 k5000");
    due("all alike: nobody", alike.quarter(), 0);
    FiddleShares far = houseOf("j9099 u0000");
    due("the most that one can be paid", ask(far, 1, 6), 22);
  }

  @Of(promise = 0, says = "A QUARTER passes: all are PAID at once")
  private static void allAtOnce() {
    FiddleShares x = houseOf("s5019 k6000 k9000");
    due("by how each is regarded ahead of it", x.quarter(), 4 + 3);
    due("the sister has 23", ask(x, 0, 3), 23);
    due("behind her: 9 less 6, not by her new regard", ask(x, 1, 3), 3);
    FiddleShares y = houseOf("m9999 k0000");
    y.quarter();
    due("the first one's purse falls below 99", ask(y, 0, 3), 90);
    due("the second one is still paid by 18", ask(y, 1, 3), 18);
  }

  @Of(promise = 0, says = "each one's PURSE is as much more, less what one WANTS (0 at least, 99 at most)")
  private static void pursesFrom0To99() {
    FiddleShares x = houseOf("k9908 k9909 k9910 k4094 k4095 k4298");
    x.quarter();
    due("8 - 9", ask(x, 0, 3), 0);
    due("9 - 9", ask(x, 1, 3), 0);
    due("10 - 9", ask(x, 2, 3), 1);
    due("94 + 5", ask(x, 3, 3), 99);
    due("95 + 5", ask(x, 4, 3), 99);
    due("98 + 5 - 2", ask(x, 5, 3), 99);
    FiddleShares y = houseOf("k9000 k4499 k4699 k0900");
    y.quarter();
    due("99 + 5 - 4: not cut between", ask(y, 1, 3), 99);
    due("99 + 5 - 6: not cut between", ask(y, 2, 3), 98);
    due("0 + 9 - 9: not cut between", ask(y, 3, 3), 0);
  }

  @Of(promise = 0, says = "a QUARTER passes (99 at most)")
  private static void quarters99AtMost() {
    FiddleShares x = quarters(houseOf("k9000 k8000"), 40);
    due("40 deeds come ahead of 99 quarters", x.quarter(), FULL);
    due("quarter", x.count(1), 40);
  }

  @Of(promise = 0, says = "one has 1 of SOOT more (3 at most)")
  private static void soot3AtMost() {
    FiddleShares x = houseOf("k9000 k8000");
    for (int s = 1; s <= 3; s++) {
      due("soot", x.soot(1), s);
    }
    due("a fourth", x.soot(1), STATE);
    due("3 it is", ask(x, 1, 4), 3);
    due("the other one has none", ask(x, 0, 4), 0);
  }

  @Of(promise = 0, says = "one is WASHED (no SOOT)")
  private static void washedOfAll() {
    FiddleShares x = soot(soot(houseOf("k9000 k8000"), 1, 3), 0, 1);
    due("all 3", x.wash(1), 3);
    due("none", ask(x, 1, 4), 0);
    due("the other one's stays", ask(x, 0, 4), 1);
    due("no soot, none to wash", x.wash(1), STATE);
  }

  @Of(promise = 0, says = "a GIFT (1 .. 99) goes from one PURSE to another one (99 at most there: what is more is lost)")
  private static void whatIsMoreIsLost() {
    FiddleShares x = houseOf("k9050 k8050");
    due("up to 99", x.gift(0, 1, 49), 99);
    due("the giver's", ask(x, 0, 3), 1);
    due("lost", x.gift(0, 1, 1), 99);
    due("the giver has none", ask(x, 0, 3), 0);
    due("all purses", x.count(3), 99);
    due("99", x.gift(1, 0, 99), 99);
    due("all gone over", ask(x, 1, 3), 0);
    FiddleShares y = houseOf("k9099 k8099");
    due("99 lost at once", y.gift(0, 1, 99), 99);
    due("all purses", y.count(3), 99);
  }

  @Of(promise = 0, says = "These are DEEDS (40 at most)")
  private static void deeds40AtMost() {
    FiddleShares x = houseOf("k9050 k8050 k0000");
    x.quarter();
    due("a quarter", x.count(2), 1);
    x.soot(0);
    due("soot", x.count(2), 2);
    x.wash(0);
    due("washing", x.count(2), 3);
    x.gift(0, 1, 1);
    due("a gift", x.count(2), 4);
    x.lots(20, 1);
    due("lots", x.count(2), 24);
    x.lots(15, 1);
    due("39", x.count(2), 39);
    due("the 40th", x.quarter() >= 0 ? 1 : 0, 1);
    due("the 41st", x.quarter(), FULL);
    due("40", x.count(2), 40);
    x.undo(39);
    due("room again", x.quarter() >= 0 ? 1 : 0, 1);
  }

  @Of(promise = 0, says = "These are DEEDS (40 at most)")
  private static void everyCallWith40Deeds() {
    FiddleShares x = forty();
    due("quarter", x.quarter(), FULL);
    due("soot", x.soot(2), FULL);
    due("wash", x.wash(0), FULL);
    due("gift", x.gift(1, 2, 1), FULL);
    due("lots", x.lots(1, 1), FULL);
    due("keep", x.keep(0), 40);
    due("on", x.on(0), 40);
    due("undo", x.undo(40), 0);
    both(x, "box", x.box(), 0, 0);
    both(x, "later", x.later(1, 60), 99, 0);
    both(x, "settles", x.settles(), 0, 0);
    both(x, "mill", x.mill(99), 1, 0);
    due("gains", x.gains(40), 0);
    due("even", x.even(0, 2, 20, 0), 0);
    due("change", x.change(20), NONE);
    due("duel", x.duel(1, 0, 6), 199);
    chance(x, "odds", x.odds(0, 0, 6), 1, 1);
    chance(x, "mid", x.mid(6), 0, 1);
    due("a house anew", x.house(0), 3);
    due("no deeds", x.count(2), 0);
    due("room for one", x.quarter(), 0);
  }

  @Of(promise = 0, says = "3 quarters to come (aside: nothing else done; beyond QUARTER 99, too)")
  private static void beyondQuarter99() {
    // the sister has 19, is paid 2, has 20, is paid nothing, and wants 1: up and down
    FiddleShares x = quarters(houseOf("k5000 s3119"), 40);
    both(x, "later, quarter 99", x.later(1, 59), 20, 60);
    both(x, "later, quarter 100", x.later(1, 60), 19, 60);
    FiddleShares y = quarters(houseOf("p4207 m5381"), 40);
    both(y, "settles, quarter 100", y.settles(), 60, 2);
    FiddleShares z = quarters(houseOf("k9059 j3211"), 40);
    both(z, "mill, quarter 100", z.mill(90), 0, 60);
    due("mill, not by then", z.mill(91), NONE);
    due("quarter", z.count(1), 40);
    due("deeds", z.count(2), 40);
  }

  @Of(promise = 0, says = "3 quarters to come (aside: nothing else done")
  private static void quartersToComeDoNothing() {
    FiddleShares x = busy();
    long was = x.digest();
    x.box();
    x.later(0, 60);
    x.settles();
    x.mill(99);
    due("digest", x.digest(), was);
    FiddleShares twin = busy();
    x.at(0, 1);
    due("all else", allOf(x).equals(allOf(twin)) ? 1 : 0, 1);
  }

  @Of(promise = 0, says = "4 what to do (aside)")
  private static void whatToDoDoesNothing() {
    FiddleShares x = busy();
    x.row(3, 6);
    FiddleShares twin = busy();
    twin.row(3, 6);
    x.gains(40);
    x.change(20);
    due("even by as few as none", x.even(0, 1, 0, 5) >= 0 ? 1 : 0, 0);
    x.even(0, 1, 3, 5);
    x.even(4, 5, 20, 5);
    x.tear(5);
    x.at(0, 1);
    twin.tear(5);
    twin.at(0, 1);
    due("all else", allOf(x).equals(allOf(twin)) ? 1 : 0, 1);
  }

  @Of(promise = 0, says = "a ROW of pairs: a PURSE 0 .. 99, how one was REGARDED with it 0 .. 30, the SOOT as it is")
  private static void pairsAtLeastAndMost() {
    FiddleShares x = houseOf("k0000 j9000");
    due("0, 0", rowOf(x, 0, 0, 0).looks(0, 0), 1);
    due("99, 30", rowOf(x, 0, 99, 30).looks(0, 0), 0);
    due("99, 22", rowOf(x, 0, 99, 22).looks(1, 0), 512);
    for (int[] pair : new int[][] {{-1, 0}, {100, 0}, {0, -1}, {0, 31}, {MIN, 0}, {MAX, 0}, {0, MIN}, {0, MAX}}) {
      due("a number that is none", rowOf(x, 0, pair).looks(0, 0), FINDING);
      due("UNLIKE", x.finding(), UNLIKE);
    }
    due("a regard may be no purse's", rowOf(x, 0, 31, 0).looks(0, 0), 1);
    x.soot(1);
    due("with the soot as it is", rowOf(x, 0, 99, 18).looks(1, 0), 512);
    due("not without it", rowOf(x, 0, 99, 22).looks(1, 0), 0);
  }

  // ---- Promise 1: a new object

  @Of(promise = 1, says = "No ROWS, TEXTS, KIN.")
  private static void aNewObject() {
    FiddleShares x = new FiddleShares();
    for (int what = 0; what <= 10; what++) {
      due("count " + what, x.count(what), 0);
    }
    due("asked", x.asked(), 0);
    due("finding", x.finding(), 0);
  }

  @Of(promise = 1, says = "No ROWS, TEXTS, KIN.")
  private static void everyCallWithoutKin() {
    FiddleShares x = new FiddleShares();
    x.row(0, 0);
    due("one", x.one(0, 0), BAD);
    due("mark", x.mark(0, 1), BAD);
    due("regard", x.regard(0, 0, 0), BAD);
    due("quarter", x.quarter(), STATE);
    due("soot", x.soot(0), BAD);
    due("wash", x.wash(0), BAD);
    due("gift", x.gift(0, 1, 1), BAD);
    due("undo", x.undo(0), 0);
    due("undo", x.undo(1), BAD);
    due("keep", x.keep(0), STATE);
    due("on", x.on(0), FINDING);
    due("box", x.box(), STATE);
    due("later", x.later(0, 0), BAD);
    due("settles", x.settles(), STATE);
    due("mill", x.mill(0), STATE);
    due("gains", x.gains(1), STATE);
    due("even", x.even(0, 1, 0, 0), BAD);
    due("change", x.change(1), STATE);
    due("looks", x.looks(0, 0), BAD);
    due("kinds", x.kinds(0, 0), BAD);
    due("test", x.test(0, 0), BAD);
    due("duel", x.duel(0, 1, 0), BAD);
    due("odds", x.odds(0, 0, 0), BAD);
    due("mid", x.mid(0), STATE);
    due("lots", x.lots(1, 1), STATE);
    due("most regarded", x.count(5), 0);
    due("findings", x.findings(NOTHING), 1);
  }

  // ---- Promises 2 to 7: rows

  @Of(promise = 2, says = "A ROW is there with n ints 0: n.")
  private static void rowOfNoughts() {
    FiddleShares x = new FiddleShares();
    due("least", x.row(0, 0), 0);
    due("there", x.count(6), 1);
    due("most", x.row(1, 40), 40);
    for (int i = 0; i < 40; i++) {
      due("place " + i, place(x, 1, i), 0);
      x.lay(1, i, 7);
    }
    due("anew, shorter", x.row(1, 2), 2);
    rowIs(x, "anew, shorter", 1, 0, 0);
    due("anew, longer", x.row(1, 40), 40);
    due("what lay there once is gone", place(x, 1, 39), 0);
    due("rows", x.count(6), 2);
  }

  @Of(promise = 2, says = "BAD: also n above 40")
  private static void rowAbove40() {
    FiddleShares x = new FiddleShares();
    due("40", x.row(0, 40), 40);
    allBad("size", n -> x.row(0, n), 41, MAX);
    range("row", r -> x.row(r, 1), 0, 5);
  }

  @Of(promise = 2, says = "SIZE: below 0")
  private static void rowBelow0() {
    FiddleShares x = new FiddleShares();
    due("0", x.row(0, 0), 0);
    found(x, "-1", y -> y.row(0, -1), SIZE);
    found(x, "least int", y -> y.row(0, MIN), SIZE);
    due("BAD ahead of SIZE", x.row(-1, -1), BAD);
    due("BAD ahead of SIZE", x.row(6, MIN), BAD);
  }

  @Of(promise = 3, says = "Place i of a ROW is v: what it was, told by asked(): 1.")
  private static void layGreatestAndLeast() {
    FiddleShares x = new FiddleShares();
    x.row(5, 40);
    told(x, "first place", x.lay(5, 0, MIN), 0);
    told(x, "last place", x.lay(5, 39, MAX), 0);
    told(x, "what was", x.lay(5, 0, MAX), MIN);
    told(x, "what was", x.lay(5, 39, -1), MAX);
    told(x, "what was", x.lay(5, 39, 0), -1);
    due("beside", place(x, 5, 1), 0);
    due("beside", place(x, 5, 38), 0);
  }

  @Of(promise = 3, says = "BAD; NOTHING; BEYOND.")
  private static void layRefused() {
    FiddleShares x = new FiddleShares();
    x.row(0, 3);
    allBad("row", r -> x.lay(r, 0, 1), -1, 6, MIN, MAX);
    found(x, "missing, ahead of BEYOND", y -> y.lay(1, -1, 1), NOTHING);
    for (int i : new int[] {-1, 3, 40, MIN, MAX}) {
      found(x, "place " + i, y -> y.lay(0, i, 1), BEYOND);
    }
    x.row(5, 0);
    found(x, "of an empty row", y -> y.lay(5, 0, 1), BEYOND);
    due("BAD ahead of all", x.lay(6, -1, 1), BAD);
    rowIs(x, "row", 0, 0, 0, 0);
  }

  @Of(promise = 4, says = "Place i of a ROW, told by asked(): 1.")
  private static void atGreatestAndLeast() {
    FiddleShares x = rowOf(new FiddleShares(), 0, MAX, MIN, 0, -1);
    told(x, "greatest int", x.at(0, 0), MAX);
    told(x, "least int", x.at(0, 1), MIN);
    told(x, "0", x.at(0, 2), 0);
    told(x, "last place", x.at(0, 3), -1);
    told(x, "again", x.at(0, 0), MAX);
  }

  @Of(promise = 4, says = "BAD; NOTHING; BEYOND.")
  private static void atRefused() {
    FiddleShares x = rowOf(new FiddleShares(), 5, 8, 9);
    allBad("row", r -> x.at(r, 0), -1, 6, MIN, MAX);
    found(x, "missing, ahead of BEYOND", y -> y.at(0, 40), NOTHING);
    for (int i : new int[] {-1, 2, 39, MIN, MAX}) {
      found(x, "place " + i, y -> y.at(5, i), BEYOND);
    }
    x.row(0, 0);
    found(x, "of an empty row", y -> y.at(0, 0), BEYOND);
    due("BAD ahead of all", x.at(6, -1), BAD);
  }

  @Of(promise = 5, says = "A ROW is missing: 1. BAD; NOTHING.")
  private static void tearAtTheEdges() {
    FiddleShares x = rowOf(new FiddleShares(), 5, 8, 9);
    x.row(0, 0);
    due("an empty one", x.tear(0), 1);
    found(x, "torn", y -> y.tear(0), NOTHING);
    due("the last", x.tear(5), 1);
    found(x, "torn", y -> y.at(5, 0), NOTHING);
    due("rows", x.count(6), 0);
    x.row(5, 2);
    rowIs(x, "there again, of noughts", 5, 0, 0);
    allBad("row", x::tear, -1, 6, MIN, MAX);
  }

  @Of(promise = 6, says = "n places of a ROW, from one on, come to those of another one (perhaps itself) from one on")
  private static void copyFirstToLast() {
    FiddleShares x = rowOf(new FiddleShares(), 0, MIN, MAX, 3);
    rowOf(x, 5, 7, 7, 7);
    due("none", x.copy(0, 0, 5, 0, 0), 1);
    rowIs(x, "none", 5, 7, 7, 7);
    due("all", x.copy(0, 0, 5, 0, 3), 1);
    rowIs(x, "all", 5, MIN, MAX, 3);
    due("the last to the first", x.copy(0, 2, 5, 0, 1), 1);
    rowIs(x, "the last to the first", 5, 3, MAX, 3);
    due("the first to the last", x.copy(0, 0, 5, 2, 1), 1);
    rowIs(x, "the first to the last", 5, 3, MAX, MIN);
    due("40 to itself", x.row(1, 40) + x.copy(1, 0, 1, 0, 40), 41);
    rowIs(x, "from which it came", 0, MIN, MAX, 3);
  }

  @Of(promise = 6, says = "as if taken ahead: 1.")
  private static void copyOverItself() {
    FiddleShares x = rowOf(new FiddleShares(), 0, 1, 2, 3, 4);
    due("up", x.copy(0, 0, 0, 1, 3), 1);
    rowIs(x, "up", 0, 1, 1, 2, 3);
    rowOf(x, 0, 1, 2, 3, 4);
    due("down", x.copy(0, 1, 0, 0, 3), 1);
    rowIs(x, "down", 0, 2, 3, 4, 4);
    due("onto the same places", x.copy(0, 1, 0, 1, 3), 1);
    rowIs(x, "onto the same places", 0, 2, 3, 4, 4);
  }

  @Of(promise = 6, says = "BAD; SIZE: n below 0")
  private static void copyFewerThanNone() {
    FiddleShares x = rowOf(new FiddleShares(), 0, 1, 2);
    found(x, "-1", y -> y.copy(0, 0, 0, 0, -1), SIZE);
    found(x, "least int", y -> y.copy(0, 0, 0, 0, MIN), SIZE);
    found(x, "ahead of NOTHING", y -> y.copy(1, 0, 2, 0, -1), SIZE);
    found(x, "ahead of BEYOND", y -> y.copy(0, 9, 0, 9, -1), SIZE);
    allBad("from, ahead of SIZE", r -> x.copy(r, 0, 0, 0, -1), -1, 6, MIN, MAX);
    allBad("to, ahead of SIZE", r -> x.copy(0, 0, r, 0, -1), -1, 6, MIN, MAX);
  }

  @Of(promise = 6, says = "NOTHING: either")
  private static void copyOfMissing() {
    FiddleShares x = rowOf(new FiddleShares(), 0, 1, 2);
    found(x, "from", y -> y.copy(1, 0, 0, 0, 1), NOTHING);
    found(x, "to", y -> y.copy(0, 0, 1, 0, 1), NOTHING);
    found(x, "both", y -> y.copy(1, 0, 2, 0, 0), NOTHING);
    found(x, "ahead of BEYOND", y -> y.copy(0, 3, 1, -1, 1), NOTHING);
    found(x, "ahead of BEYOND", y -> y.copy(1, -1, 0, 3, 1), NOTHING);
    allBad("from, ahead of NOTHING", r -> x.copy(r, 0, 1, 0, 1), -1, 6);
    allBad("to, ahead of NOTHING", r -> x.copy(1, 0, r, 0, 1), -1, 6);
  }

  @Of(promise = 6, says = "BEYOND: not so many there.")
  private static void copyBeyond() {
    FiddleShares x = rowOf(new FiddleShares(), 0, 1, 2, 3, 4);
    rowOf(x, 1, 5, 6);
    found(x, "one too many from", y -> y.copy(1, 0, 0, 0, 3), BEYOND);
    found(x, "one too far from", y -> y.copy(1, 1, 0, 0, 2), BEYOND);
    found(x, "one too many to", y -> y.copy(0, 0, 1, 0, 3), BEYOND);
    found(x, "one too far to", y -> y.copy(0, 0, 1, 1, 2), BEYOND);
    found(x, "ahead of the first, from", y -> y.copy(0, -1, 1, 0, 1), BEYOND);
    found(x, "ahead of the first, to", y -> y.copy(0, 0, 1, -1, 1), BEYOND);
    due("none from the end on", x.copy(0, 4, 1, 0, 0), 1);
    due("none to the end", x.copy(0, 0, 1, 2, 0), 1);
    found(x, "none from behind the end", y -> y.copy(0, 5, 1, 0, 0), BEYOND);
    found(x, "none to behind the end", y -> y.copy(0, 0, 1, 3, 0), BEYOND);
    x.row(2, 0);
    due("none of an empty row", x.copy(2, 0, 2, 0, 0), 1);
    found(x, "one of an empty row", y -> y.copy(2, 0, 0, 0, 1), BEYOND);
    found(x, "one to an empty row", y -> y.copy(0, 0, 2, 0, 1), BEYOND);
    rowIs(x, "row", 1, 5, 6);
  }

  @Of(promise = 6, says = "BEYOND: not so many there.")
  private static void copyBeyondByNumbersThatGoRound() {
    FiddleShares x = rowOf(new FiddleShares(), 0, 1, 2, 3, 4);
    int[] far = {MIN, MIN + 1, -1, 5, MAX - 1, MAX};
    for (int i : far) {
      for (int n : new int[] {0, 1, MAX - 1, MAX}) {
        found(x, "from " + i + ", " + n, y -> y.copy(0, i, 0, 0, n), BEYOND);
      }
    }
    FiddleShares z = rowOf(new FiddleShares(), 0, 1, 2, 3, 4);
    for (int j : far) {
      for (int n : new int[] {0, 1, MAX - 1, MAX}) {
        found(z, "to " + j + ", " + n, y -> y.copy(0, 0, 0, j, n), BEYOND);
      }
    }
    found(z, "from 1 on, most", y -> y.copy(0, 1, 0, 1, MAX), BEYOND);
    rowIs(z, "row", 0, 1, 2, 3, 4);
  }

  @Of(promise = 7, says = "The mean of a ROW's ints, cut, told by asked(): 1.")
  private static void meanCut() {
    FiddleShares x = new FiddleShares();
    told(x, "5 by 2", rowOf(x, 0, 2, 3).mean(0), 2);
    told(x, "-5 by 2", rowOf(x, 0, -2, -3).mean(0), -2);
    told(x, "-1 by 3", rowOf(x, 0, -1, 0, 0).mean(0), 0);
    told(x, "2 by 3", rowOf(x, 0, 1, 1, 0).mean(0), 0);
    told(x, "of one", rowOf(x, 5, MIN).mean(5), MIN);
  }

  @Of(promise = 7, says = "The mean of a ROW's ints, cut, told by asked(): 1.")
  private static void meanOfGreatest() {
    FiddleShares x = new FiddleShares();
    told(x, "greatest ones", rowOf(x, 0, MAX, MAX).mean(0), MAX);
    told(x, "least ones", rowOf(x, 0, MIN, MIN, MIN).mean(0), MIN);
    told(x, "least and greatest", rowOf(x, 0, MIN, MAX).mean(0), 0);
    told(x, "two least, one greatest", rowOf(x, 0, MIN, MIN, MAX).mean(0), (int) ((2L * MIN + MAX) / 3));
    int[] forty = new int[40];
    Arrays.fill(forty, MAX);
    told(x, "40 of the greatest", rowOf(x, 0, forty).mean(0), MAX);
    Arrays.fill(forty, MIN);
    told(x, "40 of the least", rowOf(x, 0, forty).mean(0), MIN);
  }

  @Of(promise = 7, says = "BAD; NOTHING; NOUGHT.")
  private static void meanRefused() {
    FiddleShares x = new FiddleShares();
    found(x, "missing", y -> y.mean(0), NOTHING);
    x.row(0, 0);
    found(x, "of none", y -> y.mean(0), NOUGHT);
    x.tear(0);
    found(x, "missing again", y -> y.mean(0), NOTHING);
    allBad("row", x::mean, -1, 6, MIN, MAX);
  }

  // ---- Promises 8 to 11: texts, houses

  @Of(promise = 8, says = "A TEXT is there with n blanks: n.")
  private static void textOfBlanks() {
    FiddleShares x = new FiddleShares();
    due("least", x.text(0, 0), 0);
    due("there", x.count(7), 1);
    due("most", x.text(3, 60), 60);
    for (int i = 0; i < 60; i++) {
      due("byte " + i, x.put(3, i, 'k'), 1032);
    }
    due("anew, shorter", x.text(3, 2), 2);
    due("beyond", x.put(3, 2, 1), FINDING);
    due("anew, longer", x.text(3, 60), 60);
    due("what stood there once is gone", x.put(3, 59, 1), 1032);
    due("texts", x.count(7), 2);
  }

  @Of(promise = 8, says = "BAD: also n above 60")
  private static void textAbove60() {
    FiddleShares x = new FiddleShares();
    due("60", x.text(0, 60), 60);
    allBad("size", n -> x.text(0, n), 61, MAX);
    range("text", t -> x.text(t, 1), 0, 3);
  }

  @Of(promise = 8, says = "SIZE: below 0")
  private static void textBelow0() {
    FiddleShares x = new FiddleShares();
    due("0", x.text(0, 0), 0);
    found(x, "-1", y -> y.text(0, -1), SIZE);
    found(x, "least int", y -> y.text(0, MIN), SIZE);
    due("BAD ahead of SIZE", x.text(-1, -1), BAD);
    due("BAD ahead of SIZE", x.text(4, MIN), BAD);
  }

  @Of(promise = 9, says = "Byte i of a TEXT is v, cut to a byte: what it was, and 1000 more.")
  private static void putCutToAByte() {
    FiddleShares x = new FiddleShares();
    x.text(0, 60);
    due("a blank was", x.put(0, 59, 127), 1032);
    int[][] follow = {{128, 127}, {-128, -128}, {-129, -128}, {255, 127}, {256, -1}, {-1, 0}, {-256, -1},
        {MAX, 0}, {MIN, -1}, {0x12345680, 0}, {32, -128}};
    for (int[] f : follow) {
      due("put " + f[0], x.put(0, 59, f[0]), 1000 + f[1]);
    }
    due("a blank again", x.put(0, 59, 32), 1032);
    due("beside", x.put(0, 58, 1), 1032);
  }

  @Of(promise = 9, says = "BAD; NOTHING; BEYOND.")
  private static void putRefused() {
    FiddleShares x = new FiddleShares();
    x.text(0, 3);
    allBad("text", t -> x.put(t, 0, 1), -1, 4, MIN, MAX);
    found(x, "missing, ahead of BEYOND", y -> y.put(3, -1, 1), NOTHING);
    for (int i : new int[] {-1, 3, 59, 60, MIN, MAX}) {
      found(x, "byte " + i, y -> y.put(0, i, 1), BEYOND);
    }
    x.text(1, 0);
    found(x, "of an empty text", y -> y.put(1, 0, 1), BEYOND);
    due("BAD ahead of all", x.put(4, -1, 1), BAD);
  }

  @Of(promise = 10, says = "A FAULT of a TEXT; NONE: there is none.")
  private static void faultAt0AndAtTheSize() {
    due("at the first place", faultOf("0"), 0);
    due("at the last place", faultOf("k0000 k000x"), 10);
    due("an empty one", faultOf(""), 0);
    due("the longest", faultOf(" ".repeat(60)), 60);
    due("none", faultOf("k0000 k0000"), NONE);
    FiddleShares x = houseOf(SIX);
    x.text(3, 5);
    due("asked of another text, the house stays", x.fault(3), 5);
    due("kin", x.count(0), 6);
    due("and what is asked aside is still of the house", x.later(5, 0), 7);
  }

  @Of(promise = 10, says = "BAD; NOTHING.")
  private static void faultRefused() {
    FiddleShares x = new FiddleShares();
    found(x, "missing", y -> y.fault(3), NOTHING);
    x.text(0, 0);
    x.text(3, 0);
    range("text", x::fault, 0, 3);
  }

  @Of(promise = 11, says = "A HOUSE by a TEXT (anew: as told at first, no DEEDS; kept HOUSES go): how many KIN.")
  private static void houseAnewOverKeptOnes() {
    FiddleShares x = houseOf("k9012 k5290");
    x.keep(0);
    x.soot(0);
    x.keep(1);
    x.quarter();
    x.keep(2);
    due("all three kept", x.count(8), 3);
    due("by the same text", x.house(0), 2);
    due("kept", x.count(8), 0);
    for (int k = 0; k < 3; k++) {
      int place = k;
      found(x, "place " + k, y -> y.on(place), NOTHING);
    }
    due("deeds", x.count(2), 0);
    due("quarter", x.count(1), 0);
    due("soot", x.count(4), 0);
    due("purses as told", x.count(3), 102);
    due("nothing to undo", x.undo(1), BAD);
  }

  @Of(promise = 11, says = "A HOUSE by a TEXT (anew: as told at first, no DEEDS; kept HOUSES go): how many KIN.")
  private static void houseAnewBehindWhatWasTriedAside() {
    List<Consumer<FiddleShares>> aside = List.of(
        y -> y.later(0, 60), FiddleShares::settles, y -> y.mill(99), y -> y.gains(40), y -> y.even(0, 1, 3, 0),
        y -> y.change(20), y -> y.duel(0, 1, 6), y -> y.fault(0));
    for (int k = 0; k < aside.size(); k++) {
      FiddleShares x = houseOf("k9012 k5290 j4119");
      FiddleShares twin = houseOf("k9012 k5290 j4119");
      soot(soot(soot(x, 0, 1), 1, 2), 2, 3);
      aside.get(k).accept(x);
      x.tear(0);
      due("house", x.house(0), 3);
      due("soot behind call " + k, x.count(4), 0);
      due("all as told behind call " + k, x.digest(), twin.digest());
      due("undone to the same", x.quarter() - twin.quarter() + x.undo(0), 1);
      due("soot behind undo", x.count(4), 0);
    }
  }

  @Of(promise = 11, says = "A HOUSE by a TEXT (anew: as told at first, no DEEDS; kept HOUSES go): how many KIN.")
  private static void houseOfTwoAndOfSix() {
    FiddleShares x = new FiddleShares();
    write(x, 0, "k9012 k5290");
    write(x, 3, SIX);
    due("two", x.house(0), 2);
    due("six", x.house(3), 6);
    due("two again", x.house(0), 2);
    due("kin", x.count(0), 2);
    due("all purses: of two alone", x.count(3), 102);
    x.put(0, 0, 's');
    due("the text changed, the house not", ask(x, 0, 0), 0);
    x.text(0, 0);
    due("the text blank, the house not", x.count(0), 2);
  }

  @Of(promise = 11, says = "STATE: a FAULT. (STATE behind NOTHING.)")
  private static void houseByAFault() {
    FiddleShares x = new FiddleShares();
    x.text(0, 0);
    due("an empty text", x.house(0), STATE);
    write(x, 0, "k9012");
    due("one", x.house(0), STATE);
    write(x, 0, "k9012k9012k9012k9012k9012k9012k9012");
    due("seven", x.house(0), STATE);
    found(x, "a missing one", y -> y.house(1), NOTHING);
    allBad("text", x::house, -1, 4, MIN, MAX);
    due("no house by these", x.count(0), 0);
  }

  @Of(promise = 11, says = "STATE: a FAULT. (STATE behind NOTHING.)")
  private static void houseByAFaultKeepsKeptOnes() {
    FiddleShares x = houseOf("k9012 k5290");
    x.soot(1);
    x.keep(2);
    write(x, 1, "k9012 k529");
    due("refused", x.house(1), STATE);
    due("kept", x.count(8), 1);
    due("deeds", x.count(2), 1);
    due("gone on from", x.on(2), 1);
    due("kin as they were", ask(x, 1, 3), 90);
    due("soot", x.count(4), 2);
  }

  // ---- Promises 12 to 14: of one

  @Of(promise = 12, says = "0 the KIND, 1 how LOOKED at, 2 what one WANTS, 3 the PURSE, 4 SOOT, 5 how REGARDED, "
      + "6 what one would be PAID, told by asked(): 1. BAD.")
  private static void oneAtTheEdges() {
    FiddleShares x = houseOf("k9012 u4507");
    range("what", what -> x.one(0, what), 0, 6);
    range("kin", i -> x.one(i, 0), 0, 1);
    int[] want = {5, 4, 5, 7, 0, 1, 8};
    for (int what = 0; what <= 6; what++) {
      told(x, "what " + what, x.one(1, what), want[what]);
    }
    x.one(0, 1);
    due("refused", x.one(2, 7), BAD);
    due("asked stays", x.asked(), 9);
    range("of six", i -> houseOf(SIX).one(i, 6), 0, 5);
  }

  @Of(promise = 13, says = "a SISTER (JULIA, too) how much more one is REGARDED than a KIN alike")
  private static void markOfSisters() {
    FiddleShares x = houseOf("s5019 s5020 j5019 j5020 j0000 s0020");
    int[] want = {0, 2, 5, 9, 0, 2};
    for (int i = 0; i < 6; i++) {
      due("sister " + i, x.mark(i, 1), want[i]);
    }
    soot(x, 3, 3);
    due("julia with soot", x.mark(3, 1), 4);
  }

  @Of(promise = 13, says = "a MILLER likewise")
  private static void markOfMillers() {
    FiddleShares x = houseOf("m5009 m5010 m5099 m0099 s5099");
    int[] want = {0, 1, 9, 9};
    for (int i = 0; i < 4; i++) {
      due("miller " + i, x.mark(i, 2), want[i]);
    }
    found(x, "a sister is none", y -> y.mark(4, 2), UNLIKE);
  }

  @Of(promise = 13, says = "a PATCHED one (UNLISTED, too) how much less than a KIN alike")
  private static void markOfPatchedOnes() {
    FiddleShares x = houseOf("p5009 p5010 p0009 u5009 u5010 u0000");
    int[] want = {1, 0, 0, 3, 3, 0};
    for (int i = 0; i < 6; i++) {
      due("patched " + i, x.mark(i, 3), want[i]);
    }
    soot(x, 0, 3);
    due("nothing left that could be less", x.mark(0, 3), 0);
  }

  @Of(promise = 13, says = "a JULIA how much more than a SISTER alike, an UNLISTED one how much less than a PATCHED one alike")
  private static void markOfJuliasAndUnlistedOnes() {
    FiddleShares x = houseOf("j5019 j5020 j0000 u5009 u5010 u1009");
    due("julia", x.mark(0, 4), 5);
    due("julia with 20", x.mark(1, 4), 7);
    due("julia not looked at", x.mark(2, 4), 0);
    due("unlisted: 4 less 2", x.mark(3, 5), 2);
    due("unlisted: 5 less 2, cut", x.mark(4, 5), 3);
    due("unlisted: 0 less 0", x.mark(5, 5), 0);
  }

  @Of(promise = 13, says = "BAD: also KIND 0; UNLIKE.")
  private static void markRefused() {
    FiddleShares x = houseOf(SIX);
    allBad("kind", kind -> x.mark(0, kind), 0, -1, 6, MIN, MAX);
    allBad("kin", i -> x.mark(i, 1), -1, 6, MIN, MAX);
    String[] fits = {"", "1", "2", "3", "14", "35"};
    for (int i = 0; i < 6; i++) {
      for (int kind = 1; kind <= 5; kind++) {
        boolean is = fits[i].indexOf('0' + kind) >= 0;
        due("one " + i + " as " + kind, x.mark(i, kind) == FINDING ? 1 : 0, is ? 0 : 1);
      }
    }
    due("each of these is UNLIKE", x.findings(UNLIKE), 30 - 7);
  }

  @Of(promise = 14, says = "How one would be REGARDED with so much SOOT (0 .. 3), a PURSE (0 .. 99). BAD.")
  private static void regardAtTheEdges() {
    FiddleShares x = houseOf("m9012 u4507");
    range("soot", s -> x.regard(0, s, 50), 0, 3);
    range("purse", p -> x.regard(0, 0, p), 0, 99);
    range("kin", i -> x.regard(i, 0, 0), 0, 1);
    due("least", x.regard(0, 3, 0), 3);
    due("most", x.regard(0, 0, 99), 18);
    x.soot(0);
    due("whatever soot one has", x.regard(0, 0, 0), 9);
    due("soot stays", ask(x, 0, 4), 1);
  }

  // ---- Promises 15 to 21: deeds

  @Of(promise = 15, says = "A QUARTER passes: what all are PAID together.")
  private static void quarterPaysTogether() {
    FiddleShares x = houseOf("k9000 k9000");
    due("nothing", x.quarter(), 0);
    due("a quarter all the same", x.count(1), 1);
    FiddleShares y = houseOf("j9099 u0099 u0099 u0099 u0099 u0099");
    due("what is more than 99 is paid all the same", y.quarter(), 5 * 22);
    due("purses", y.count(3), 6 * 99);
  }

  @Of(promise = 15, says = "STATE: no KIN, or it is QUARTER 99; FULL: 40 DEEDS. (FULL last.)")
  private static void quarterRefused() {
    due("no kin", new FiddleShares().quarter(), STATE);
    FiddleShares x = houseOf("k9000 k8000");
    for (int k = 1; k <= 40; k++) {
      due("quarter " + k, x.quarter(), 1);
    }
    due("the 41st", x.quarter(), FULL);
    due("quarters", x.count(1), 40);
    due("deeds", x.count(2), 40);
    due("purse", ask(x, 1, 3), 40);
  }

  @Of(promise = 16, says = "SOOT: how much one has. BAD; STATE: one has 3; FULL. (FULL last.)")
  private static void sootRefused() {
    FiddleShares x = forty();
    due("STATE ahead of FULL", x.soot(0), STATE);
    due("FULL", x.soot(1), FULL);
    due("FULL", x.soot(2), FULL);
    allBad("BAD ahead of FULL", x::soot, -1, 3, MIN, MAX);
    x.undo(39);
    due("the 40th", x.soot(2), 1);
    FiddleShares y = houseOf(SIX);
    range("kin", y::soot, 0, 5);
  }

  @Of(promise = 17, says = "One is WASHED: how much SOOT one had. BAD; STATE: none; FULL. (FULL last.)")
  private static void washRefused() {
    FiddleShares x = forty();
    due("STATE ahead of FULL", x.wash(2), STATE);
    due("FULL", x.wash(0), FULL);
    due("FULL", x.wash(1), FULL);
    allBad("BAD ahead of FULL", x::wash, -1, 3, MIN, MAX);
    x.undo(39);
    due("the 40th", x.wash(0), 3);
    due("FULL again", x.wash(1), FULL);
    FiddleShares y = houseOf(SIX);
    range("kin, without soot", y::wash, 0, 5);
    for (int s = 1; s <= 3; s++) {
      due("how much one had", soot(y, 5, s).wash(5), s);
    }
  }

  @Of(promise = 18, says = "A GIFT of v (1 .. 99): the other one's PURSE then. BAD: also to oneself")
  private static void giftAtTheEdges() {
    FiddleShares x = houseOf("k9099 k5000");
    due("least", x.gift(0, 1, 1), 1);
    due("most that is left", x.gift(0, 1, 98), 99);
    due("most", x.gift(1, 0, 99), 99);
    allBad("how much", v -> x.gift(0, 1, v), 0, -1, 100, MIN, MAX);
    allBad("from", i -> x.gift(i, 1, 1), -1, 2, MIN, MAX);
    allBad("to", j -> x.gift(0, j, 1), -1, 2, MIN, MAX);
    due("to oneself", x.gift(0, 0, 1), BAD);
    due("to oneself, ahead of STATE", x.gift(1, 1, 99), BAD);
    due("deeds", x.count(2), 3);
    FiddleShares six = houseOf("k9099 k5000 k0000 k0000 k0000 k5099");
    due("from the first to the last", six.gift(0, 5, 1), 99);
    due("from the last to the first", six.gift(5, 0, 1), 99);
  }

  @Of(promise = 18, says = "STATE: one has not so much; FULL. (FULL last.)")
  private static void giftRefused() {
    FiddleShares x = houseOf("k9050 k5000");
    due("one more than one has", x.gift(0, 1, 51), STATE);
    due("all that one has", x.gift(0, 1, 50), 50);
    due("of nothing", x.gift(0, 1, 1), STATE);
    FiddleShares full = forty();
    due("STATE ahead of FULL", full.gift(0, 1, 1), STATE);
    due("FULL", full.gift(1, 0, 1), FULL);
    due("FULL", full.gift(1, 0, 99), FULL);
    due("BAD ahead of FULL", full.gift(1, 1, 1), BAD);
    due("BAD ahead of STATE", full.gift(0, 1, 100), BAD);
    full.undo(39);
    due("the 40th", full.gift(1, 0, 99), 99);
  }

  @Of(promise = 19, says = "DEEDS from number n on are undone: how many. BAD.")
  private static void undoAtTheEdges() {
    FiddleShares x = forty();
    long was = x.digest();
    allBad("number", x::undo, -1, 41, MIN, MAX);
    due("none", x.undo(40), 0);
    due("as it was", x.digest(), was);
    due("the last", x.undo(39), 1);
    due("no such number any more", x.undo(40), BAD);
    due("quarter", x.count(1), 35);
    due("all but the first", x.undo(1), 38);
    due("soot", ask(x, 0, 4), 1);
    due("all", x.undo(0), 1);
    due("none left", x.undo(0), 0);
    due("no such number", x.undo(1), BAD);
    due("soot", x.count(4), 0);
    FiddleShares none = new FiddleShares();
    due("without kin", none.undo(0), 0);
    allBad("without kin", none::undo, -1, 1);
  }

  @Of(promise = 19, says = "DEEDS from number n on are undone: how many. BAD.")
  private static void undoWhatWasLost() {
    FiddleShares x = houseOf("k9060 k5060 k9905");
    soot(x, 0, 3);
    x.gift(0, 1, 60);
    due("lost", x.count(3), 99 + 5);
    x.quarter();
    due("wanted more than there was", ask(x, 2, 3), 0);
    x.wash(0);
    due("undone: the washing", x.undo(5), 1);
    due("soot", ask(x, 0, 4), 3);
    due("undone: the quarter", x.undo(4), 1);
    due("what was wanted is there again", ask(x, 2, 3), 5);
    due("undone: the gift", x.undo(3), 1);
    due("what was lost is there again", x.count(3), 125);
  }

  @Of(promise = 20, says = "is kept in a place (0 .. 2): how many DEEDS.")
  private static void keepInAllThreePlaces() {
    FiddleShares x = houseOf("k9012 k5290");
    due("place 0", x.keep(0), 0);
    x.soot(0);
    due("place 1", x.keep(1), 1);
    x.quarter();
    due("place 2", x.keep(2), 2);
    due("all three", x.count(8), 3);
    due("each has its own", x.on(0), 0);
    due("soot", x.count(4), 0);
    due("each has its own", x.on(1), 1);
    due("soot", x.count(4), 1);
    due("each has its own", x.on(2), 2);
    due("quarter", x.count(1), 1);
    due("over one", x.keep(0), 2);
    due("still three", x.count(8), 3);
    due("over one", x.on(0), 2);
    FiddleShares full = forty();
    due("40 deeds", full.keep(2), 40);
    full.undo(0);
    due("40 deeds", full.on(2), 40);
    due("full as it was", full.quarter(), FULL);
    due("and can be undone", full.undo(3), 37);
  }

  @Of(promise = 20, says = "BAD; STATE: no KIN.")
  private static void keepRefused() {
    FiddleShares none = new FiddleShares();
    for (int k = 0; k <= 2; k++) {
      due("no kin", none.keep(k), STATE);
    }
    allBad("BAD ahead of STATE", none::keep, -1, 3, MIN, MAX);
    due("nothing kept", none.count(8), 0);
    FiddleShares x = houseOf("k9012 k5290");
    range("place", x::keep, 0, 2);
  }

  @Of(promise = 21, says = "The HOUSE is as it was kept: how many DEEDS. BAD; NOTHING.")
  private static void onAtTheEdges() {
    FiddleShares x = houseOf("k9012 k5290");
    for (int k = 0; k <= 2; k++) {
      int place = k;
      found(x, "nothing kept in " + k, y -> y.on(place), NOTHING);
    }
    allBad("place", x::on, -1, 3, MIN, MAX);
    soot(x, 1, 3);
    x.keep(2);
    x.undo(0);
    x.lots(20, 7);
    x.lots(20, 8);
    due("behind 40 others", x.on(2), 3);
    due("soot", ask(x, 1, 4), 3);
    due("3 at most", x.soot(1), STATE);
    x.quarter();
    due("kept stays as it was kept", x.on(2), 3);
    due("quarter", x.count(1), 0);
    found(x, "another place", y -> y.on(1), NOTHING);
  }

  // ---- Promises 22 to 25: quarters to come

  @Of(promise = 22, says = "who is REGARDED most (the first) by asked(). STATE: no KIN.")
  private static void boxTheFirst() {
    FiddleShares none = new FiddleShares();
    due("no kin", none.box(), STATE);
    due("asked", none.asked(), 0);
    FiddleShares x = houseOf("k3000 k7000 k7000 k5000 k7000");
    both(x, "of three the first", x.box(), 6, 1);
    FiddleShares all = houseOf("k0000 k0000");
    all.one(1, 0);
    both(all, "all alike", all.box(), 0, 0);
    FiddleShares last = houseOf("k0000 k0000 k0000 k0000 k0000 j9099");
    both(last, "the last, the most that can be", last.box(), 110, 5);
  }

  @Of(promise = 23, says = "One's PURSE behind n (0 .. 60) QUARTERS; what one is PAID in all of these by asked(). BAD.")
  private static void laterAtTheEdges() {
    FiddleShares x = houseOf("k9000 k8000");
    both(x, "0", x.later(1, 0), 0, 0);
    both(x, "1", x.later(1, 1), 1, 1);
    both(x, "60", x.later(1, 60), 60, 60);
    range("quarters", n -> x.later(0, n), 0, 60);
    range("kin", i -> x.later(i, 60), 0, 1);
    FiddleShares y = houseOf("j9099 u0099");
    both(y, "paid what is lost, too", y.later(1, 60), 99, 60 * 22);
    due("refused", y.later(1, 61), BAD);
    due("asked stays", y.asked(), 60 * 22);
  }

  @Of(promise = 24, says = "Behind how many QUARTERS (0 .. 60) the next one changes no PURSE first; what the BOX gives in it by asked().")
  private static void settlesAtTheEdges() {
    FiddleShares now = houseOf("k9000 k8190");
    both(now, "paid what one wants", now.settles(), 0, 1);
    FiddleShares full = houseOf("k9000 k0099");
    both(full, "a full purse", full.settles(), 0, 9);
    FiddleShares empty = houseOf("k9900 k9900");
    both(empty, "empty purses", empty.settles(), 0, 0);
    FiddleShares one = houseOf("k9000 k8098");
    both(one, "behind 1", one.settles(), 1, 1);
    FiddleShares last = houseOf("k9000 k8039");
    both(last, "behind 60", last.settles(), 60, 1);
    FiddleShares slow = houseOf("k9000 k8098 k9160");
    both(slow, "all purses count", slow.settles(), 60, 1);
  }

  @Of(promise = 24, says = "NONE: not by then. STATE: no KIN.")
  private static void settlesNotByThen() {
    FiddleShares x = houseOf("k9000 k8038");
    x.one(0, 1);
    both(x, "behind 61", x.settles(), NONE, 9);
    FiddleShares y = houseOf("k5000 s3119");
    both(y, "up and down", y.settles(), NONE, 0);
    FiddleShares none = new FiddleShares();
    due("no kin", none.settles(), STATE);
  }

  @Of(promise = 25, says = "Who has a PURSE of v (0 .. 99) or more first (now counts, too; of several the first)")
  private static void millAtTheEdges() {
    FiddleShares x = houseOf("k9000 k6000 k7005");
    both(x, "0: now, the first of all", x.mill(0), 0, 0);
    both(x, "5: now", x.mill(5), 2, 0);
    both(x, "15: two at once", x.mill(15), 1, 5);
    both(x, "14: not the first one", x.mill(13), 2, 4);
    both(x, "99", x.mill(99), 1, 33);
    range("purse", x::mill, 0, 99);
    FiddleShares y = houseOf("k9098 k9099");
    both(y, "99: now", y.mill(99), 1, 0);
    both(y, "98: now, the first", y.mill(98), 0, 0);
    FiddleShares down = houseOf("k9950 k9951");
    both(down, "now, though less and less", down.mill(51), 1, 0);
  }

  @Of(promise = 25, says = "behind how many QUARTERS (0 .. 60) by asked(). NONE: nobody by then. BAD; STATE: no KIN.")
  private static void millNotByThen() {
    FiddleShares x = houseOf("k9000 k8000");
    both(x, "behind 60", x.mill(60), 1, 60);
    x.one(0, 1);
    both(x, "behind 61", x.mill(61), NONE, 9);
    due("never", houseOf("k9000 k9000").mill(1), NONE);
    FiddleShares none = new FiddleShares();
    due("no kin", none.mill(0), STATE);
    due("no kin", none.mill(99), STATE);
    allBad("BAD ahead of STATE", none::mill, -1, 100, MIN, MAX);
  }

  // ---- Promises 26 to 28: what to do

  @Of(promise = 26, says = "KIN (bits) whose PURSE is more behind n (1 .. 40) QUARTERS")
  private static void gainsAtTheEdges() {
    due("98 and 99 behind 1", houseOf("k9099 k8097").gains(1), 2);
    due("99 and 99 behind 1", houseOf("k9099 k8098").gains(1), 0);
    due("98 and 99 behind 39", houseOf("k9099 k8059").gains(39), 2);
    due("99 and 99 behind 40", houseOf("k9099 k8059").gains(40), 0);
    due("98 and 99 behind 40", houseOf("k9099 k8058").gains(40), 2);
    FiddleShares x = houseOf("k9000 k8000");
    range("quarters", x::gains, 1, 40);
    due("one by oneself, not both at once", houseOf("k9000 k9000").gains(1), 3);
    due("less is not more", houseOf("m9190 k9000").gains(1), 2);
    due("2 of soot would be enough for what one wants, 1 is not", houseOf("k9000 k5700").gains(1), 0);
  }

  @Of(promise = 26, says = "if one has 1 of SOOT more now (who has 3: not). BAD; STATE: no KIN.")
  private static void gainsWhoHas3() {
    FiddleShares x = soot(houseOf("k9000 k9000"), 0, 2);
    due("who has 2", x.gains(1), 1);
    x.soot(0);
    due("who has 3", x.gains(1), 0);
    due("soot stays", ask(x, 0, 4), 3);
    FiddleShares none = new FiddleShares();
    due("no kin", none.gains(1), STATE);
    allBad("BAD ahead of STATE", none::gains, 0, -1, 41, MIN, MAX);
  }

  @Of(promise = 27, says = "so that PURSES of two are alike behind n (0 .. 20) QUARTERS")
  private static void evenAtTheEdges() {
    FiddleShares x = houseOf("k9000 k9040");
    due("0: as it is, not alike", x.even(0, 1, 0, 0), NONE);
    due("19 times 2", x.even(0, 1, 19, 0), NONE);
    due("20 times 2", x.even(0, 1, 20, 0), 1);
    rowIs(x, "20 times 2", 0, 1, 0);
    due("the other way about", x.even(1, 0, 20, 0), 1);
    FiddleShares alike = houseOf("k9040 k0040");
    due("0: as it is, alike", alike.even(0, 1, 0, 0), 0);
    rowIs(alike, "as it is", 0, 0, 0);
    range("quarters", n -> alike.even(0, 1, n, 0), 0, 20);
    range("row", r -> alike.even(0, 1, 0, r), 0, 5);
  }

  @Of(promise = 27, says = "Of how few KIN the SOOT is another one (0 .. 3 each) now")
  private static void evenByHowFew() {
    FiddleShares none = soot(houseOf("k9000 k9000 k5000"), 2, 2);
    due("of none", none.even(0, 1, 5, 0), 0);
    rowIs(none, "the soot as it is", 0, 0, 0, 2);
    FiddleShares one = houseOf("k9000 k9018");
    due("of one, 3 more", one.even(0, 1, 3, 0), 1);
    rowIs(one, "3 more", 0, 3, 0);
    FiddleShares first = houseOf("k9000 k9018 k9000 k9000 k9000 k9000");
    due("of the first of six", first.even(0, 1, 3, 0), 1);
    rowIs(first, "of the first of six", 0, 3, 0, 0, 0, 0, 0);
    FiddleShares last = houseOf("k9000 k9000 k9000 k9000 k9018 k9000");
    due("of the last of six", last.even(5, 4, 3, 0), 1);
    rowIs(last, "of the last of six", 0, 0, 0, 0, 0, 0, 3);
    FiddleShares both = soot(houseOf("k9000 k9006"), 1, 1);
    due("of both", both.even(0, 1, 1, 0), 2);
    rowIs(both, "of both", 0, 3, 0);
    FiddleShares less = soot(houseOf("k9000 k9000"), 1, 3);
    due("of one, all less", less.even(0, 1, 1, 0), 1);
    rowIs(less, "of one, all less", 0, 0, 0);
    due("nothing done", less.count(2), 3);
  }

  @Of(promise = 27, says = "the SOOT of each one then comes to a ROW (anew), of like few the first (rising)")
  private static void evenTheFirst() {
    FiddleShares x = houseOf("k2000 k0000 k9000");
    due("1, 2 or 3 would do", x.even(0, 1, 1, 5), 1);
    rowIs(x, "1 is the first", 5, 1, 0, 0);
    // 0 0 3: both are paid 3, then 3 again; 1 0 0: both are looked at 0 and are paid 9, then 9
    FiddleShares y = houseOf("u2005 u1005 k9000");
    due("the first one's or the third one's", y.even(0, 1, 2, 5), 1);
    rowIs(y, "the first one's place counts most", 5, 0, 0, 3);
  }

  @Of(promise = 27, says = "comes to a ROW (anew)")
  private static void evenComesToARowAnew() {
    FiddleShares x = houseOf("k9000 k9000");
    due("a missing one", x.even(0, 1, 0, 5), 0);
    due("is there", x.count(6), 1);
    rowIs(x, "of as many as there are kin", 5, 0, 0);
    x.row(5, 40);
    x.even(0, 1, 0, 5);
    rowIs(x, "a longer one", 5, 0, 0);
    x.row(5, 0);
    x.even(0, 1, 0, 5);
    rowIs(x, "an empty one", 5, 0, 0);
    FiddleShares six = houseOf("k9000 k9000 k1000 k1000 k1000 k1000");
    six.soot(5);
    six.even(0, 1, 20, 0);
    rowIs(six, "of six", 0, 0, 0, 0, 0, 0, 1);
  }

  @Of(promise = 27, says = "NONE: it can not be. BAD: also two alike.")
  private static void evenNotAtAll() {
    FiddleShares x = rowOf(houseOf("k0099 k0000"), 1, 8, 9, 10);
    due("can not be", x.even(0, 1, 20, 1), NONE);
    rowIs(x, "the row as it was", 1, 8, 9, 10);
    due("can not be", x.even(0, 1, 20, 2), NONE);
    due("no row by that", x.count(6), 1);
    due("two alike", x.even(0, 0, 0, 1), BAD);
    due("two alike", x.even(1, 1, 0, 1), BAD);
    allBad("first", i -> x.even(i, 0, 0, 1), -1, 2, MIN, MAX);
    allBad("second", j -> x.even(0, j, 0, 1), -1, 2, MIN, MAX);
  }

  @Of(promise = 28, says = "so that the BOX gives least in n (1 .. 20) QUARTERS together")
  private static void changeAtTheEdges() {
    FiddleShares x = houseOf("j9000 k3000");
    both(x, "1", x.change(1), 1, 3);
    // 7 times 3, until the julia has 21 and is regarded 10; then 13 times 1
    both(x, "20", x.change(20), 1, 34);
    range("quarters", x::change, 1, 20);
    due("nothing changed", ask(x, 0, 1), 9);
  }

  @Of(promise = 28, says = "(10 times the lesser number and the other one; the first)")
  private static void changeTheFirst() {
    FiddleShares last = houseOf("k9000 k9000 k9000 k9000 j9000 k3000");
    both(last, "the last two", last.change(1), 45, 3);
    FiddleShares first = houseOf("k1000 j9000 k1000 k1000");
    both(first, "0 or 2 or 3 with 1", first.change(1), 1, 7 + 8 + 8);
    FiddleShares second = houseOf("j9000 k1000 k1000");
    both(second, "0 with 1 or 2", second.change(1), 1, 7 + 8);
  }

  @Of(promise = 28, says = "NONE: no two make it less. BAD; STATE: no KIN.")
  private static void changeNone() {
    FiddleShares x = houseOf("k9000 k1000 k5000");
    x.one(0, 1);
    both(x, "as much is not less", x.change(1), NONE, 9);
    both(x, "as much is not less", x.change(20), NONE, 9);
    FiddleShares none = new FiddleShares();
    due("no kin", none.change(1), STATE);
    allBad("BAD ahead of STATE", none::change, 0, -1, 21, MIN, MAX);
  }

  // ---- Promises 29 to 31: how one was looked at

  private interface OfPairs {
    int ask(FiddleShares x, int i, int r);
  }

  private static void refusesPairs(OfPairs call) {
    FiddleShares x = houseOf("u5000 k3000");
    x.row(0, 0);
    x.row(5, 0);
    range("kin", i -> call.ask(x, i, 0), 0, 1);
    range("row", r -> call.ask(x, 0, r), 0, 5);
    due("BAD ahead of NOTHING", call.ask(x, 2, 3), BAD);
    found(x, "missing", y -> call.ask(y, 0, 3), NOTHING);
    rowOf(x, 3, 100);
    found(x, "one, SIZE ahead of UNLIKE", y -> call.ask(y, 0, 3), SIZE);
    due("BAD ahead of SIZE", call.ask(x, -1, 3), BAD);
    rowOf(x, 3, 0, 0, 0);
    found(x, "three", y -> call.ask(y, 0, 3), SIZE);
    x.row(3, 39);
    found(x, "39", y -> call.ask(y, 0, 3), SIZE);
  }

  private static void refusesNumbers(OfPairs call) {
    FiddleShares x = houseOf("u5000 k3000");
    int[][] unlike = {{-1, 0}, {100, 0}, {0, -1}, {0, 31}, {0, 0, 100, 0}, {0, 0, 0, 31}, {MIN, 0}, {MAX, 0}, {0, MIN}, {0, MAX}};
    for (int[] pairs : unlike) {
      found(rowOf(x, 0, pairs), Arrays.toString(pairs), y -> call.ask(y, 0, 0), UNLIKE);
    }
    due("BAD ahead of UNLIKE", call.ask(x, 2, 0), BAD);
    x.row(1, 40);
    x.lay(1, 39, 31);
    found(x, "the last of 40", y -> call.ask(y, 0, 1), UNLIKE);
    x.lay(1, 39, 30);
    due("30", call.ask(x, 0, 1) == FINDING ? 1 : 0, 0);
    x.lay(1, 38, 99);
    due("99", call.ask(x, 0, 1) == FINDING ? 1 : 0, 0);
  }

  @Of(promise = 29, says = "How LOOKED at (bits 0 .. 9) one can be by these.")
  private static void looksAtTheEdges() {
    FiddleShares x = houseOf("k5000 j5000 u5000");
    x.row(0, 0);
    due("by nothing", x.looks(0, 0), 1023);
    due("0", rowOf(x, 0, 0, 0).looks(0, 0), 1);
    due("9", rowOf(x, 0, 99, 9).looks(0, 0), 512);
    due("10", rowOf(x, 0, 99, 10).looks(0, 0), 0);
    due("a julia, 22", rowOf(x, 0, 20, 22).looks(1, 0), 512);
    due("a julia, 30", rowOf(x, 0, 20, 30).looks(1, 0), 0);
    due("an unlisted one, 0, below 10", rowOf(x, 0, 9, 0).looks(2, 0), 7);
    due("an unlisted one, 0, with 10", rowOf(x, 0, 10, 0).looks(2, 0), 3);
    due("both", rowOf(x, 0, 9, 0, 10, 1).looks(2, 0), 4);
    int[] forty = new int[40];
    for (int k = 0; k < 40; k += 2) {
      forty[k] = 2 * k;
      forty[k + 1] = 6;
    }
    due("20 pairs", rowOf(x, 1, forty).looks(0, 1), 64);
    x.lay(1, 39, 7);
    due("the last one counts, too", x.looks(0, 1), 0);
  }

  @Of(promise = 29, says = "BAD; NOTHING; SIZE: not by pairs; UNLIKE: a number that is none. (In this order.)")
  private static void looksRefused() {
    refusesPairs(FiddleShares::looks);
    refusesNumbers(FiddleShares::looks);
  }

  @Of(promise = 30, says = "KINDS (bits) that one can be of by these.")
  private static void kindsAtTheEdges() {
    FiddleShares x = houseOf("k5000 j0000");
    x.row(0, 0);
    due("by nothing", x.kinds(0, 0), 63);
    due("9: patched", rowOf(x, 0, 9, 4).kinds(0, 0), 8);
    due("10: not patched any more", rowOf(x, 0, 10, 4).kinds(0, 0), 0);
    due("10: the miller is not it", rowOf(x, 0, 10, 5).kinds(0, 0), 1 | 2 | 8);
    due("19: the sister", rowOf(x, 0, 19, 5).kinds(0, 0), 1 | 2 | 8);
    due("20: not the sister", rowOf(x, 0, 20, 5).kinds(0, 0), 1 | 8);
    due("99: miller", rowOf(x, 0, 99, 14).kinds(0, 0), 4 | 16);
    due("the julia alone", rowOf(x, 0, 99, 14, 0, 10).kinds(0, 0), 16);
    due("the unlisted one alone", rowOf(x, 0, 0, 2).kinds(0, 0), 32);
    due("none", rowOf(x, 0, 0, 30).kinds(0, 0), 0);
    due("all alike who are not looked at", rowOf(x, 0, 0, 0).kinds(1, 0), 63);
  }

  @Of(promise = 30, says = "BAD; NOTHING; SIZE; UNLIKE. (In this order.)")
  private static void kindsRefused() {
    refusesPairs(FiddleShares::kinds);
    refusesNumbers(FiddleShares::kinds);
  }

  @Of(promise = 31, says = "the greatest part of those REGARDED alike is least (the first); that part by asked().")
  private static void testTheFirst() {
    FiddleShares x = houseOf("k5000 k0000");
    x.row(0, 0);
    both(x, "all: two by two from 20 on", x.test(0, 0), 20, 2);
    both(x, "none looked at: three from 20 on", x.test(1, 0), 20, 3);
    both(x, "one kind: at once", rowOf(x, 0, 9, 4).test(0, 0), 0, 1);
    both(x, "kin alone: at once", rowOf(x, 0, 9, 5, 20, 5).test(0, 0), 0, 1);
    both(x, "unlisted alone: at once", rowOf(x, 0, 9, 2).test(0, 0), 0, 1);
    both(x, "miller or julia: at once", rowOf(x, 0, 99, 14).test(0, 0), 0, 1);
    both(x, "kin or patched: at once", rowOf(x, 0, 20, 5).test(0, 0), 0, 1);
    both(x, "kin, sister, miller: from 30 on", rowOf(x, 0, 0, 5).test(0, 0), 30, 1);
    both(x, "sister or miller: from 10 on", rowOf(x, 0, 29, 7).test(0, 0), 10, 1);
  }

  @Of(promise = 31, says = "NONE: there is no KIND.")
  private static void testNoKind() {
    FiddleShares x = rowOf(houseOf("k5000 k0000"), 0, 0, 30);
    x.one(0, 1);
    both(x, "no kind", x.test(0, 0), NONE, 5);
  }

  @Of(promise = 31, says = "BAD; NOTHING; SIZE; UNLIKE. (In this order.)")
  private static void testRefused() {
    refusesPairs(FiddleShares::test);
    refusesNumbers(FiddleShares::test);
  }

  // ---- Promise 32: by turns

  @Of(promise = 32, says = "By n (0 .. 6) turns in all one of two has 1 of SOOT more, if below 3")
  private static void duelAtTheEdges() {
    FiddleShares x = houseOf("k9000 k9000 k9000");
    due("no turn", x.duel(0, 1, 0), 100);
    due("one turn", x.duel(0, 1, 1), 108);
    due("the other one has the second", x.duel(0, 1, 2), 100);
    due("the fifth is the first one's", x.duel(0, 1, 5), 108);
    due("six", x.duel(0, 1, 6), 100);
    range("turns", n -> x.duel(0, 1, n), 0, 6);
    for (int a = 0; a <= 3; a++) {
      for (int b = 0; b <= 3; b++) {
        FiddleShares some = soot(soot(houseOf("k9000 k9000 k9000"), 0, a), 1, b);
        int first = Math.min(3, a + 1);
        int second = Math.min(3, b + 1);
        due("soot " + a + ", " + b + ", no turn", some.duel(0, 1, 0), 100 + 8 * (a - b));
        due("soot " + a + ", " + b + ", one turn", some.duel(0, 1, 1), 100 + 8 * (first - b));
        due("soot " + a + ", " + b + ", two turns", some.duel(0, 1, 2), 100 + 8 * (first - second));
        due("soot " + a + ", " + b + ", six turns", some.duel(0, 1, 6), 100);
      }
    }
    FiddleShares three = soot(houseOf("k9000 k9000 k9000"), 0, 3);
    due("3 at most", three.duel(0, 1, 1), 124);
    due("3 at most, of the second, too", three.duel(1, 0, 2), 100 - 24 + 8);
    due("nothing done", three.count(2), 3);
  }

  @Of(promise = 32, says = "or is WASHED, if there is some, or does nothing, then the other one does")
  private static void duelWashedOrNothing() {
    FiddleShares nothing = soot(houseOf("j5020 k0000"), 0, 3);
    due("soot and washing would cost", nothing.duel(0, 1, 1), 104);
    // the unlisted one washed is regarded 1: the sister is paid 1, has 20, is regarded 2, and pays it back thrice
    FiddleShares washed = soot(soot(houseOf("u3017 s2019"), 0, 3), 1, 3);
    due("as it is", washed.duel(0, 1, 0), 98);
    due("washed at once of all", washed.duel(0, 1, 1), 100);
    due("the second one washes, too", washed.duel(1, 0, 2), 100);
  }

  @Of(promise = 32, says = "how much more the PURSE of the first is behind 4 QUARTERS then, and 100")
  private static void duelFarthest() {
    due("99 more", houseOf("k0099 k0000").duel(0, 1, 0), 199);
    due("99 less", houseOf("k0000 k0099").duel(0, 1, 0), 1);
    due("99 less, whatever they do", houseOf("k0000 k0099").duel(0, 1, 6), 1);
    due("4 quarters", houseOf("k9000 k8000").duel(1, 0, 0), 104);
    due("wants, too", houseOf("k9050 k9950").duel(0, 1, 0), 136);
  }

  @Of(promise = 32, says = "BAD: also two alike.")
  private static void duelOfTwoAlike() {
    FiddleShares x = houseOf("k9000 k9000");
    due("two alike", x.duel(0, 0, 0), BAD);
    due("two alike", x.duel(1, 1, 6), BAD);
    allBad("first", i -> x.duel(i, 0, 0), -1, 2, MIN, MAX);
    allBad("second", j -> x.duel(0, j, 0), -1, 2, MIN, MAX);
  }

  // ---- Promises 33 to 35: chances, lots

  @Of(promise = 33, says = "Chances that one is PAID v (0 .. 40) or more in the next QUARTER")
  private static void oddsOfSoMuch() {
    FiddleShares x = houseOf("j9099 u0000");
    chance(x, "0 or more", x.odds(0, 0, 6), 1, 1);
    chance(x, "22 or more", x.odds(1, 22, 0), 1, 1);
    chance(x, "23 or more", x.odds(1, 23, 0), 0, 1);
    chance(x, "40 or more", x.odds(1, 40, 0), 0, 1);
    range("paid", v -> x.odds(0, v, 3), 0, 40);
    range("kin", i -> x.odds(i, 40, 3), 0, 1);
  }

  @Of(promise = 33, says = "if each one is overlooked (REGARDED 0) in it by p (0 .. 12) of 12, each by itself: 1. BAD.")
  private static void oddsOfTwelfths() {
    FiddleShares x = houseOf("k1000 k9000 k9000 k9000 k9000 k9000");
    chance(x, "none overlooked", x.odds(0, 8, 0), 1, 1);
    chance(x, "none overlooked", x.odds(0, 9, 0), 0, 1);
    chance(x, "oneself, not all others", x.odds(0, 9, 1), 248831, 2985984);
    chance(x, "oneself, not all others", x.odds(0, 9, 11), 11L * (248832 - 161051), 2985984);
    chance(x, "all overlooked", x.odds(0, 1, 12), 0, 1);
    chance(x, "all overlooked", x.odds(0, 0, 12), 1, 1);
    range("of 12", p -> x.odds(0, 0, p), 0, 12);
    due("refused: upper", x.upper(), 1);
    due("refused: lower", x.lower(), 1);
  }

  @Of(promise = 34, says = "The mean of what the BOX gives then: 1. BAD; STATE: no KIN.")
  private static void midAtTheEdges() {
    FiddleShares x = houseOf("k9000 k0000 k0000 k0000 k0000 k0000");
    chance(x, "0", x.mid(0), 45, 1);
    chance(x, "1", x.mid(1), 165, 4);
    chance(x, "11", x.mid(11), 15, 4);
    chance(x, "12", x.mid(12), 0, 1);
    range("of 12", x::mid, 0, 12);
    FiddleShares none = new FiddleShares();
    due("no kin", none.mid(0), STATE);
    due("no kin", none.mid(12), STATE);
    allBad("BAD ahead of STATE", none::mid, -1, 13, MIN, MAX);
  }

  @Of(promise = 35, says = "n (1 .. 20) DEEDS truly by LOTS of a seed")
  private static void lotsOfOneAndOf20() {
    FiddleShares x = houseOf("k9012 k5290 k3100");
    due("one: a quarter", x.lots(1, 1), 12 + 92 + 5);
    due("one deed", x.count(2), 1);
    due("20", x.lots(20, 1) >= 0 ? 1 : 0, 1);
    due("deeds", x.count(2), 21);
    allBad("how many", n -> x.lots(n, 1), 0, -1, 21, MIN, MAX);
    due("undone one by one", x.undo(20), 1);
  }

  @Of(promise = 35, says = "48271 times it modulo 2147483647, the first from the seed (1 .. 2147483646)")
  private static void lotsOfTheGreatestSeed() {
    FiddleShares x = houseOf("k9012 k5290 k3100");
    // 2147435376: 0 modulo 4, 268429422 modulo 3 is 0; then 1964877853: the second is washed; 856088761: the first is
    due("one", x.lots(1, LAST_SEED), 102);
    due("soot of the first", x.count(4), 1);
    x.undo(0);
    due("three", x.lots(3, LAST_SEED), 102);
    due("soot of none", x.count(4), 0);
    due("quarter", x.count(1), 0);
    due("deeds", x.count(2), 3);
    x.undo(0);
    // 2147387105: the third is washed; 1782272059, 1712177522: quarters
    due("the one ahead of it", x.lots(3, LAST_SEED - 1), 12 + 94 + 10);
    due("quarters", x.count(1), 2);
    allBad("seed", seed -> x.lots(1, seed), 0, -1, MIN, MAX);
    noneBad("seed", seed -> x.lots(1, seed), 1, LAST_SEED);
  }

  @Of(promise = 35, says = "has 1 of SOOT more (if 3: is WASHED)")
  private static void lotsWhoHas3() {
    FiddleShares x = houseOf("k9012 k5290 k3100");
    // 193084: 0 modulo 4, 24135 modulo 3 is 0
    for (int s = 1; s <= 3; s++) {
      x.lots(1, 4);
      due("soot", ask(x, 0, 4), s);
    }
    x.lots(1, 4);
    due("if 3: washed", ask(x, 0, 4), 0);
    due("deeds", x.count(2), 4);
    due("undone", x.undo(3) + ask(x, 0, 4), 1 + 3);
  }

  @Of(promise = 35, says = "that one is WASHED (also without SOOT)")
  private static void lotsWashed() {
    FiddleShares x = soot(houseOf("k9012 k5290 k3100"), 2, 2);
    // 144813: 1 modulo 4, 18101 modulo 3 is 2
    due("washed of all", x.lots(1, 3), 102);
    due("soot", x.count(4), 0);
    due("without soot", x.lots(1, 3), 102);
    due("a deed all the same", x.count(2), 4);
    due("quarter", x.count(1), 0);
  }

  @Of(promise = 35, says = "else a QUARTER passes, if it is not QUARTER 99 (a DEED of nothing else): all PURSES together then.")
  private static void lotsOfQuarters() {
    FiddleShares x = houseOf("k9000 k8000");
    // 96542: 2 modulo 4; 48271: 3 modulo 4
    due("2", x.lots(1, 2), 1);
    due("3", x.lots(1, 1), 2);
    due("quarters", x.count(1), 2);
    for (int k = 0; k < 38; k++) {
      x.lots(1, 1);
    }
    due("40 at most", x.count(1), 40);
    due("all purses", x.count(3), 40);
  }

  @Of(promise = 35, says = "BAD; STATE: no KIN; FULL: with n more there would be more than 40 DEEDS. (FULL last.)")
  private static void lotsRefused() {
    FiddleShares none = new FiddleShares();
    due("no kin", none.lots(20, 1), STATE);
    due("BAD ahead of STATE", none.lots(21, 1), BAD);
    FiddleShares x = houseOf("k9000 k8000");
    x.lots(20, 9);
    x.quarter();
    due("21 and 20", x.lots(20, 9), FULL);
    due("none of them", x.count(2), 21);
    due("21 and 19", x.lots(19, 9) >= 0 ? 1 : 0, 1);
    due("40", x.count(2), 40);
    due("40 and 1", x.lots(1, 9), FULL);
    due("BAD ahead of FULL", x.lots(0, 9), BAD);
    x.undo(20);
    due("20 and 20", x.lots(20, 9) >= 0 ? 1 : 0, 1);
  }

  // ---- Promises 36 to 42: what is told

  @Of(promise = 36, says = "0 before.")
  private static void askedBefore() {
    FiddleShares x = new FiddleShares();
    due("new", x.asked(), 0);
    x.at(0, 0);
    x.one(0, 0);
    x.box();
    x.mean(0);
    due("refused ones tell nothing", x.asked(), 0);
  }

  @Of(promise = 36, says = "that was not refused (nor answered NONE) told")
  private static void askedNotByRefusedOnes() {
    FiddleShares x = rowOf(houseOf("k9000 k8000"), 0, 7, 0, 30);
    x.row(1, 0);
    List<Consumer<FiddleShares>> calls = List.of(
        y -> y.lay(6, 0, 1), y -> y.lay(2, 0, 1), y -> y.lay(0, 3, 1), y -> y.at(6, 0), y -> y.at(2, 0),
        y -> y.at(0, -1), y -> y.mean(6), y -> y.mean(2), y -> y.mean(1), y -> y.one(2, 0), y -> y.one(0, 7),
        y -> y.later(0, 61), y -> y.later(2, 1), y -> y.settles(), y -> y.mill(100), y -> y.mill(61),
        y -> y.change(0), y -> y.change(1), y -> y.test(2, 0), y -> y.test(0, 2), y -> y.test(0, 0));
    x.at(0, 0);
    for (int k = 0; k < calls.size(); k++) {
      calls.get(k).accept(x);
      due("call " + k, x.asked(), 7);
    }
    rowOf(x, 2, 0, 30);
    x.at(0, 0);
    due("no kind", x.test(0, 2), NONE);
    due("no kind", x.asked(), 7);
  }

  @Of(promise = 36, says = "What the latest lay(), at(), mean(), one(), box(), later(), settles(), mill(), change(), test()")
  private static void askedByEachOfTen() {
    FiddleShares x = rowOf(houseOf("j9000 k3000"), 0, 4, 8);
    told(x, "lay", x.lay(0, 0, 6), 4);
    told(x, "at", x.at(0, 1), 8);
    told(x, "mean", x.mean(0), 7);
    told(x, "one", x.one(1, 1), 3);
    both(x, "box", x.box(), 15, 0);
    both(x, "later", x.later(1, 2), 30, 30);
    both(x, "settles", x.settles(), 7, 15);
    both(x, "mill", x.mill(30), 1, 2);
    both(x, "change", x.change(1), 1, 3);
    x.row(1, 0);
    both(x, "test", x.test(1, 1), 20, 2);
  }

  @Of(promise = 37, says = "The upper number that was told last; 0 before.")
  private static void upperBefore() {
    FiddleShares x = new FiddleShares();
    due("before", x.upper(), 0);
    x.mid(3);
    x.odds(0, 0, 0);
    due("refused", x.upper(), 0);
    FiddleShares y = houseOf("k9000 k4000");
    y.mid(3);
    due("mid", y.upper(), 21);
    y.odds(1, 5, 3);
    due("odds", y.upper(), 3);
    y.odds(1, 41, 3);
    y.mid(13);
    due("refused", y.upper(), 3);
    y.house(0);
    due("a new house leaves it", y.upper(), 3);
  }

  @Of(promise = 38, says = "Its lower number; 1 before.")
  private static void lowerBefore() {
    FiddleShares x = new FiddleShares();
    due("before", x.lower(), 1);
    x.mid(3);
    due("refused", x.lower(), 1);
    FiddleShares y = houseOf("k9000 k4000");
    y.odds(1, 9, 1);
    due("odds", y.lower(), 144);
    y.mid(3);
    due("mid", y.lower(), 4);
    y.odds(2, 0, 3);
    due("refused", y.lower(), 4);
    y.mid(12);
    due("0 by 1", y.lower(), 1);
  }

  @Of(promise = 39, says = "0 KIN, 1 the QUARTER, 2 DEEDS, 3 all PURSES together, 4 those with SOOT (bits), 5 how REGARDED the most is (0 without KIN)")
  private static void countOfAHouse() {
    int[] least = {2, 0, 0, 0, 0, 0};
    FiddleShares x = houseOf("k0000 k0000");
    for (int what = 0; what <= 5; what++) {
      due("least of " + what, x.count(what), least[what]);
    }
    FiddleShares y = houseOf("j9099 j9099 j9099 j9099 j9099 j9099");
    due("kin, at most", y.count(0), 6);
    due("purses, at most", y.count(3), 594);
    due("regarded, at most", y.count(5), 22);
    for (int i = 0; i < 6; i++) {
      y.soot(i);
    }
    due("soot, at most", y.count(4), 63);
    quarters(y, 34);
    due("quarters", y.count(1), 34);
    due("deeds, at most", y.count(2), 40);
    due("without kin", new FiddleShares().count(5), 0);
  }

  @Of(promise = 39, says = "6 ROWS, 7 TEXTS that are there, 8 kept HOUSES, 9 SISTERS (JULIAS, too), 10 PATCHED ones (UNLISTED, too). BAD.")
  private static void countOfAllElse() {
    FiddleShares x = new FiddleShares();
    range("what", x::count, 0, 10);
    FiddleShares y = houseOf("s0000 s0000 s0000 j0000 j0000 j0000");
    due("sisters, all", y.count(9), 6);
    due("patched, none", y.count(10), 0);
    FiddleShares z = houseOf("p0000 p0000 p0000 u0000 u0000 u0000");
    due("sisters, none", z.count(9), 0);
    due("patched, all", z.count(10), 6);
    due("millers and kin are neither", houseOf("k0000 m0000").count(9) + houseOf("k0000 m0000").count(10), 0);
    for (int k = 0; k < 6; k++) {
      z.row(k, 0);
      z.text(Math.min(k, 3), 0);
      z.keep(Math.min(k, 2));
    }
    due("rows, all", z.count(6), 6);
    due("texts, all", z.count(7), 4);
    due("kept, all", z.count(8), 3);
    z.tear(3);
    due("one torn", z.count(6), 5);
  }

  @Of(promise = 40, says = "The latest FINDING (0 before any).")
  private static void findingBeforeAny() {
    FiddleShares x = new FiddleShares();
    due("new", x.finding(), 0);
    x.at(6, 0);
    x.quarter();
    due("BAD, STATE are none", x.finding(), 0);
    x.at(0, 0);
    due("NOTHING", x.finding(), NOTHING);
    x.row(0, -1);
    due("SIZE", x.finding(), SIZE);
    x.at(0, 0);
    due("the latest, not the greatest", x.finding(), NOTHING);
    x.row(0, 0);
    due("it stays", x.finding(), NOTHING);
  }

  @Of(promise = 41, says = "How often a FINDING (1 .. 5) was answered. BAD.")
  private static void findingsAtTheEdges() {
    FiddleShares x = new FiddleShares();
    range("number", x::findings, 1, 5);
    for (int f = 1; f <= 5; f++) {
      due("none yet of " + f, x.findings(f), 0);
    }
    for (int k = 0; k < 400; k++) {
      x.at(0, 0);
    }
    due("400 times", x.findings(1), 400);
    due("not the others", x.findings(2) + x.findings(3) + x.findings(4) + x.findings(5), 0);
    x.findings(0);
    x.findings(6);
    due("BAD is none of them", x.findings(1), 400);
  }

  /** By numbers without an end, cut to a long in the end alone. */
  private static long mixed(List<Integer> numbers) {
    BigInteger h = BigInteger.valueOf(17);
    for (int v : numbers) {
      h = h.multiply(BigInteger.valueOf(31)).add(BigInteger.valueOf(v));
    }
    return h.longValue();
  }

  @Of(promise = 42, says = "h = 17; then h = 31 h + v for each v: count() 0 to 10")
  private static void digestOfNothing() {
    List<Integer> all = new ArrayList<>(Arrays.asList(0, 0, 0, 0, 0, 0, 0, 0, 0, 0, 0));
    for (int k = 0; k < 3 + 6 + 4; k++) {
      all.add(-1);
    }
    due("new", new FiddleShares().digest(), mixed(all));
    FiddleShares x = new FiddleShares();
    x.row(0, 0);
    x.text(3, 0);
    all.set(6, 1);
    all.set(7, 1);
    all.set(11 + 3, 0);
    all.set(11 + 3 + 6 + 3, 0);
    due("an empty row, an empty text", x.digest(), mixed(all));
  }

  @Of(promise = 42, says = "of each of KIN one() 0 to 6; of each kept HOUSE how many DEEDS (-1: missing); "
      + "of each ROW its size (-1: missing) and places, of each TEXT likewise.")
  private static void digestGoesRound() {
    FiddleShares x = houseOf("s9110k4205");
    x.keep(0);
    x.soot(1);
    x.quarter();
    x.keep(2);
    rowOf(x, 0, MIN, MAX);
    x.row(5, 40);
    x.lay(5, 39, MIN);
    x.text(3, 2);
    x.put(3, 0, 128);
    x.put(3, 1, 255);
    x.mean(0);
    int asked = x.asked();
    List<Integer> all = new ArrayList<>(Arrays.asList(2, 1, 2, 19, 2, 9, 2, 2, 2, 1, 0));
    all.addAll(Arrays.asList(1, 9, 1, 9, 0, 9, 0, 0, 4, 2, 10, 1, 2, 7));
    all.addAll(Arrays.asList(0, -1, 2));
    all.addAll(Arrays.asList(2, MIN, MAX, -1, -1, -1, -1, 40));
    for (int k = 0; k < 39; k++) {
      all.add(0);
    }
    all.add(MIN);
    all.addAll(Arrays.asList(10, 115, 57, 49, 49, 48, 107, 52, 50, 48, 53, -1, -1, 2, -128, -1));
    due("all", x.digest(), mixed(all));
    due("again", x.digest(), mixed(all));
    due("asked stays", x.asked(), asked);
  }
}
