import java.lang.reflect.Method;
import java.lang.reflect.Modifier;
import java.util.ArrayList;
import java.util.Arrays;
import java.util.Comparator;
import java.util.HashMap;
import java.util.List;
import java.util.Map;
import java.util.Random;
import java.util.Set;

/**
 * Runs of calls (fixed seeds) up to an object's 512th, compared with runs that must go alike: without the calls that
 * were refused, without those that only ask, on a new object with the same HOUSE, with only those DEEDS that were not
 * undone. No answer is told here: what is due comes from the other run.
 */
public final class LifeTest {
  private static final int CALLS = 512, RUNS = 200;
  private static final Set<String> TELLS_ALONE = Set.of("asked", "upper", "lower", "finding", "findings", "digest");
  private static final Set<String> ONLY_ASKS = Set.of("at", "mean", "fault", "one", "mark", "regard", "box", "later",
      "settles", "mill", "gains", "change", "looks", "kinds", "test", "duel", "odds", "mid", "asked", "upper", "lower",
      "count", "finding", "findings", "digest");
  /** Calls that neither read nor change a ROW or a TEXT. */
  private static final Set<String> OF_THE_HOUSE = Set.of("one", "mark", "regard", "quarter", "soot", "wash", "gift",
      "undo", "keep", "on", "box", "later", "settles", "mill", "gains", "change", "duel", "odds", "mid", "lots", "asked",
      "upper", "lower");
  private static final Set<String> DEEDS = Set.of("quarter", "soot", "wash", "gift");
  private static final Map<String, Method> FACE = new HashMap<>();
  private static final List<String> NAMES = new ArrayList<>();

  private static long compared = 0;
  private static int refusedCalls = 0;
  private static int wrong = 0;

  private record Call(String name, int[] args) {
    long of(FiddleShares x) {
      Object[] given = new Object[args.length];
      Arrays.setAll(given, k -> args[k]);
      try {
        return ((Number) FACE.get(name).invoke(x, given)).longValue();
      } catch (ReflectiveOperationException e) {
        throw new IllegalStateException(this + " threw", e);
      }
    }

    @Override
    public String toString() {
      String all = Arrays.toString(args);
      return name + "(" + all.substring(1, all.length() - 1) + ")";
    }
  }

  public static void main(String[] args) {
    for (Method m : FiddleShares.class.getDeclaredMethods()) {
      if (Modifier.isPublic(m.getModifiers())) {
        FACE.put(m.getName(), m);
        NAMES.add(m.getName());
      }
    }
    NAMES.sort(Comparator.naturalOrder());
    for (int seed = 1; seed <= RUNS && wrong < 5; seed++) {
      withoutTheRefused(new Random(seed));
      withoutThoseThatAsk(new Random(seed));
      houseAnew(new Random(seed));
      undone(new Random(seed));
      goneOnFrom(new Random(seed));
    }
    due("calls that were refused are among them", refusedCalls > 10000 ? 1 : 0, 1);
    System.out.println(compared + " answers compared, " + wrong + " wrong");
    if (wrong != 0) {
      System.exit(1);
    }
  }

  private static void due(String what, long got, long want) {
    compared++;
    if (got != want) {
      wrong++;
      System.out.println(what + " answered " + got + ", due is " + want);
    }
  }

  // ---- calls by lots

  private static Call call(String name, int... args) {
    return new Call(name, args);
  }

  private static int number(Random random) {
    int luck = random.nextInt(40);
    if (luck == 0) return random.nextBoolean() ? Integer.MIN_VALUE : Integer.MAX_VALUE;
    if (luck < 3) return -1;
    if (luck < 34) return random.nextInt(7);
    return random.nextInt(100);
  }

  private static Call anyOf(List<String> names, Random random) {
    String name = names.get(random.nextInt(names.size()));
    int[] args = new int[FACE.get(name).getParameterCount()];
    Arrays.setAll(args, k -> number(random));
    return new Call(name, args);
  }

  private static List<String> named(Set<String> names) {
    return NAMES.stream().filter(names::contains).toList();
  }

  private static String house(Random random) {
    StringBuilder text = new StringBuilder();
    int kin = 2 + random.nextInt(5);
    for (int i = 0; i < kin; i++) {
      text.append(" ".repeat(random.nextInt(3))).append("ksmpju".charAt(random.nextInt(6)));
      text.append(random.nextInt(10)).append(random.nextInt(6)).append(random.nextInt(10)).append(random.nextInt(10));
    }
    return text.toString();
  }

  private static void write(List<Call> calls, int t, String text) {
    calls.add(call("text", t, text.length()));
    for (int i = 0; i < text.length(); i++) {
      if (text.charAt(i) != ' ') {
        calls.add(call("put", t, i, text.charAt(i)));
      }
    }
    calls.add(call("house", t));
  }

  /** So many calls of all names, with a HOUSE now and then that can be read. */
  private static List<Call> life(Random random, int many) {
    List<Call> calls = new ArrayList<>();
    while (calls.size() < many) {
      if (calls.isEmpty() || random.nextInt(100) == 0) {
        write(calls, random.nextInt(4), house(random));
      }
      calls.add(anyOf(NAMES, random));
    }
    return calls.subList(0, many);
  }

  private static long[] answers(List<Call> calls, FiddleShares x) {
    long[] answers = new long[calls.size()];
    Arrays.setAll(answers, k -> calls.get(k).of(x));
    return answers;
  }

  /** BAD, FULL, FINDING, STATE; what only tells of earlier calls may be such a number without being refused. */
  private static boolean isRefused(Call c, long answer) {
    return !TELLS_ALONE.contains(c.name) && answer >= FiddleShares.STATE && answer <= FiddleShares.BAD;
  }

  private static void compare(String what, List<Call> calls, FiddleShares x, FiddleShares y) {
    for (Call c : calls) {
      due(what + ", " + c, c.of(x), c.of(y));
    }
  }

  // ---- runs that go alike

  /** 'What is refused changes nothing but finding(), findings()'. */
  private static void withoutTheRefused(Random random) {
    List<Call> calls = life(random, CALLS);
    long[] whole = answers(calls, new FiddleShares());
    FiddleShares y = new FiddleShares();
    for (int k = 0; k < CALLS; k++) {
      Call c = calls.get(k);
      if (isRefused(c, whole[k])) {
        refusedCalls++;
      } else if (!c.name.startsWith("finding")) {
        due("without the refused, call " + (k + 1) + ", " + c, whole[k], c.of(y));
      }
    }
  }

  /** What only asks leaves ROWS, TEXTS and the HOUSE as they are, refused or not. */
  private static void withoutThoseThatAsk(Random random) {
    List<Call> calls = life(random, CALLS - 1);
    FiddleShares x = new FiddleShares();
    long[] whole = answers(calls, x);
    FiddleShares y = new FiddleShares();
    for (int k = 0; k < calls.size(); k++) {
      Call c = calls.get(k);
      if (!ONLY_ASKS.contains(c.name)) {
        due("without those that ask, call " + (k + 1) + ", " + c, whole[k], c.of(y));
      }
    }
    due("without those that ask, digest", x.digest(), y.digest());
  }

  /** A HOUSE by a TEXT is anew: whatever went ahead of it on the object, it is as on a new object. */
  private static void houseAnew(Random random) {
    List<Call> calls = new ArrayList<>();
    write(calls, random.nextInt(4), house(random));
    // asked(), upper(), lower() are then alike on both
    calls.add(call("box"));
    calls.add(call("mid", 5));
    List<String> names = named(OF_THE_HOUSE);
    int many = 100 + random.nextInt(200);
    while (calls.size() < many) {
      calls.add(anyOf(names, random));
    }
    FiddleShares x = new FiddleShares();
    answers(life(random, CALLS - many), x);
    // put() answers what was there ahead of it, which text() made blanks on both
    compare("a house anew", calls, x, new FiddleShares());
  }

  private static List<Call> deedsDone(FiddleShares x, Random random, int many) {
    List<String> names = named(DEEDS);
    List<Call> done = new ArrayList<>();
    for (int tries = 0; tries < 120 && done.size() < many; tries++) {
      Call c = anyOf(names, random);
      if (!isRefused(c, c.of(x))) {
        done.add(c);
      }
    }
    return done;
  }

  private static List<Call> questions(Random random, int many) {
    List<String> names = NAMES.stream().filter(n -> OF_THE_HOUSE.contains(n) && !TELLS_ALONE.contains(n)).toList();
    List<Call> calls = new ArrayList<>(List.of(call("digest")));
    for (int what = 0; what <= 10; what++) {
      calls.add(call("count", what));
    }
    while (calls.size() < many) {
      calls.add(anyOf(names, random));
    }
    calls.add(call("digest"));
    return calls;
  }

  private static FiddleShares withHouse(List<Call> written) {
    FiddleShares x = new FiddleShares();
    answers(written, x);
    return x;
  }

  /** DEEDS that were undone might as well not have been done. */
  private static void undone(Random random) {
    List<Call> written = new ArrayList<>();
    write(written, 0, house(random));
    FiddleShares x = withHouse(written);
    FiddleShares y = withHouse(written);
    List<Call> done = deedsDone(x, random, 1 + random.nextInt(40));
    int n = random.nextInt(done.size() + 1);
    due("undo(" + n + ")", x.undo(n), done.size() - n);
    answers(done.subList(0, n), y);
    compare("behind undo(" + n + ")", questions(random, 150), x, y);
  }

  /** Gone on from a kept HOUSE, what was done since might as well not have been done; what is kept stays kept. */
  private static void goneOnFrom(Random random) {
    List<Call> written = new ArrayList<>();
    write(written, 0, house(random));
    FiddleShares x = withHouse(written);
    FiddleShares y = withHouse(written);
    List<Call> done = deedsDone(x, random, random.nextInt(30));
    answers(done, y);
    int k = random.nextInt(3);
    due("keep(" + k + ")", x.keep(k), done.size());
    y.keep(k);
    for (int again = 0; again < 2; again++) {
      x.undo(random.nextInt(x.count(2) + 1));
      deedsDone(x, random, random.nextInt(10));
      due("on(" + k + ")", x.on(k), done.size());
    }
    compare("behind on(" + k + ")", questions(random, 100), x, y);
  }
}
