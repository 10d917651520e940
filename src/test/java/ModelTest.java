import java.math.BigInteger;
import java.util.ArrayList;
import java.util.Arrays;
import java.util.Comparator;
import java.util.List;
import java.util.Random;

/**
 * Runs of calls by a fixed seed, each answer compared with that of a second, slower reading of the document:
 * its KINDS are classes, its HOUSES are snapshots, its searches try all there is.
 */
public final class ModelTest {
  private static final int RUNS = 1500;
  /** An object is used for so many calls; what later ones answer is free, so they are not compared. */
  private static final int CALLS = 512;
  private static final int BAD = -1, FULL = -2, FINDING = -3, STATE = -4, NONE = -9;
  private static final int NOTHING = 1, BEYOND = 2, UNLIKE = 3, NOUGHT = 4, SIZE = 5;

  // ---- the second reading

  static class One {
    final int look, wants;

    One(int look, int wants) {
      this.look = look;
      this.wants = wants;
    }

    int kind() { return 0; }

    int esteem(int soot, int purse) {
      int e = look;
      for (int k = 0; k < soot; k++) {
        e = e < 2 ? 0 : e - 2;
      }
      return e;
    }
  }

  static class Sister extends One {
    Sister(int look, int wants) { super(look, wants); }
    @Override int kind() { return 1; }
    @Override int esteem(int soot, int purse) { return super.esteem(soot, purse) + (purse > 19 ? 2 : 0); }
  }

  static class Miller extends One {
    Miller(int look, int wants) { super(look, wants); }
    @Override int kind() { return 2; }
    @Override int esteem(int soot, int purse) { return super.esteem(soot, purse) + (purse - purse % 10) / 10; }
  }

  static class Patched extends One {
    Patched(int look, int wants) { super(look, wants); }
    @Override int kind() { return 3; }
    @Override int esteem(int soot, int purse) {
      int e = super.esteem(soot, purse);
      return purse <= 9 && e > 0 ? e - 1 : e;
    }
  }

  static class Julia extends Sister {
    Julia(int look, int wants) { super(look, wants); }
    @Override int kind() { return 4; }
    @Override int esteem(int soot, int purse) { return super.esteem(soot, purse) << 1; }
  }

  static class Unlisted extends Patched {
    Unlisted(int look, int wants) { super(look, wants); }
    @Override int kind() { return 5; }
    @Override int esteem(int soot, int purse) { return super.esteem(soot, purse) >> 1; }
  }

  static One make(int kind, int look, int wants) {
    return switch (kind) {
      case 0 -> new One(look, wants);
      case 1 -> new Sister(look, wants);
      case 2 -> new Miller(look, wants);
      case 3 -> new Patched(look, wants);
      case 4 -> new Julia(look, wants);
      default -> new Unlisted(look, wants);
    };
  }

  static final class Snap {
    final One[] ones;
    final int[] purses, soots;
    final int quarter;

    Snap(One[] ones, int[] purses, int[] soots, int quarter) {
      this.ones = ones;
      this.purses = purses;
      this.soots = soots;
      this.quarter = quarter;
    }

    int[] esteems() {
      int[] e = new int[ones.length];
      Arrays.setAll(e, i -> ones[i].esteem(soots[i], purses[i]));
      return e;
    }

    static int[] pay(int[] esteems) {
      int most = Arrays.stream(esteems).max().orElse(0);
      return Arrays.stream(esteems).map(e -> most - e).toArray();
    }

    int[] pays() { return pay(esteems()); }

    int box() { return Arrays.stream(pays()).sum(); }

    int all() { return Arrays.stream(purses).sum(); }

    Snap next() {
      int[] pays = pays();
      int[] then = new int[ones.length];
      for (int i = 0; i < ones.length; i++) {
        int p = purses[i] + pays[i] - ones[i].wants;
        then[i] = p < 0 ? 0 : p > 99 ? 99 : p;
      }
      return new Snap(ones, then, soots, quarter + 1);
    }

    Snap behind(int n) {
      Snap s = this;
      for (int q = 0; q < n; q++) {
        s = s.next();
      }
      return s;
    }

    Snap withSoot(int i, int soot) {
      int[] then = soots.clone();
      then[i] = soot;
      return new Snap(ones, purses, then, quarter);
    }

    Snap withSoots(int[] then) { return new Snap(ones, purses, then, quarter); }

    Snap withPurse(int i, int purse) {
      int[] then = purses.clone();
      then[i] = Math.min(99, purse);
      return new Snap(ones, then, soots, quarter);
    }
  }

  static final class Model {
    final int[][] rows = new int[6][];
    final byte[][] texts = new byte[4][];
    /** Snapshot k is the HOUSE behind k DEEDS; empty: no KIN. */
    List<Snap> snaps = new ArrayList<>();
    final List<List<Snap>> kept = new ArrayList<>(Arrays.asList(null, null, null));
    final int[] found = new int[6];
    int finding = 0, asked = 0;
    BigInteger upper = BigInteger.ZERO, lower = BigInteger.ONE;

    Snap now() { return snaps.isEmpty() ? null : snaps.get(snaps.size() - 1); }
    int deeds() { return Math.max(0, snaps.size() - 1); }
    int kin() { return snaps.isEmpty() ? 0 : now().ones.length; }
    boolean out(int v, int lo, int hi) { return v < lo || v > hi; }
    boolean notKin(int i) { return out(i, 0, kin() - 1); }

    int find(int f) {
      finding = f;
      found[f]++;
      return FINDING;
    }

    int tell(int told, int answer) {
      asked = told;
      return answer;
    }

    int row(int r, int n) {
      if (out(r, 0, 5) || n > 40) return BAD;
      if (n < 0) return find(SIZE);
      rows[r] = new int[n];
      return n;
    }

    int lay(int r, int i, int v) {
      if (out(r, 0, 5)) return BAD;
      if (rows[r] == null) return find(NOTHING);
      if (out(i, 0, rows[r].length - 1)) return find(BEYOND);
      asked = rows[r][i];
      rows[r][i] = v;
      return 1;
    }

    int at(int r, int i) {
      if (out(r, 0, 5)) return BAD;
      if (rows[r] == null) return find(NOTHING);
      if (out(i, 0, rows[r].length - 1)) return find(BEYOND);
      return tell(rows[r][i], 1);
    }

    int tear(int r) {
      if (out(r, 0, 5)) return BAD;
      if (rows[r] == null) return find(NOTHING);
      rows[r] = null;
      return 1;
    }

    int copy(int r, int i, int to, int j, int n) {
      if (out(r, 0, 5) || out(to, 0, 5)) return BAD;
      if (n < 0) return find(SIZE);
      if (rows[r] == null || rows[to] == null) return find(NOTHING);
      if (i < 0 || j < 0 || (long) i + n > rows[r].length || (long) j + n > rows[to].length) return find(BEYOND);
      int[] from = rows[r].clone();
      for (int k = 0; k < n; k++) rows[to][j + k] = from[i + k];
      return 1;
    }

    int mean(int r) {
      if (out(r, 0, 5)) return BAD;
      if (rows[r] == null) return find(NOTHING);
      if (rows[r].length == 0) return find(NOUGHT);
      BigInteger sum = BigInteger.ZERO;
      for (int v : rows[r]) sum = sum.add(BigInteger.valueOf(v));
      return tell(sum.divide(BigInteger.valueOf(rows[r].length)).intValueExact(), 1);
    }

    int text(int t, int n) {
      if (out(t, 0, 3) || n > 60) return BAD;
      if (n < 0) return find(SIZE);
      texts[t] = new byte[n];
      Arrays.fill(texts[t], (byte) 32);
      return n;
    }

    int put(int t, int i, int v) {
      if (out(t, 0, 3)) return BAD;
      if (texts[t] == null) return find(NOTHING);
      if (out(i, 0, texts[t].length - 1)) return find(BEYOND);
      int was = texts[t][i];
      texts[t][i] = (byte) v;
      return 1000 + was;
    }

    /** A machine of states: 0 between items, 1 .. 4 that many signs of an item are read. */
    int faultOf(byte[] text, List<int[]> items) {
      int state = 0;
      int[] item = null;
      for (int p = 0; p < text.length; p++) {
        if (state == 0 && text[p] == 32) continue;
        if (state == 0) {
          int kind = "ksmpju".indexOf(text[p] & 0xffff);
          if (kind < 0 || items.size() == 6) return p;
          item = new int[] {kind, 0, 0, 0, 0};
          state = 1;
        } else {
          if (text[p] < 48 || text[p] > 57) return p;
          item[state] = text[p] - 48;
          state++;
          if (state == 5) {
            items.add(item);
            state = 0;
          }
        }
      }
      return state != 0 || items.size() < 2 ? text.length : NONE;
    }

    int fault(int t) {
      if (out(t, 0, 3)) return BAD;
      if (texts[t] == null) return find(NOTHING);
      return faultOf(texts[t], new ArrayList<>());
    }

    int house(int t) {
      if (out(t, 0, 3)) return BAD;
      if (texts[t] == null) return find(NOTHING);
      List<int[]> items = new ArrayList<>();
      if (faultOf(texts[t], items) != NONE) return STATE;
      int n = items.size();
      One[] ones = new One[n];
      int[] purses = new int[n];
      for (int i = 0; i < n; i++) {
        int[] item = items.get(i);
        ones[i] = make(item[0], item[1], item[2]);
        purses[i] = item[3] * 10 + item[4];
      }
      snaps = new ArrayList<>(List.of(new Snap(ones, purses, new int[n], 0)));
      for (int k = 0; k < 3; k++) kept.set(k, null);
      return n;
    }

    int ofOne(int i, int what) {
      Snap s = now();
      return new int[] {s.ones[i].kind(), s.ones[i].look, s.ones[i].wants, s.purses[i], s.soots[i],
          s.esteems()[i], s.pays()[i]}[what];
    }

    int one(int i, int what) {
      if (notKin(i) || out(what, 0, 6)) return BAD;
      return tell(ofOne(i, what), 1);
    }

    int as(int i, int kind) {
      Snap s = now();
      return make(kind, s.ones[i].look, 0).esteem(s.soots[i], s.purses[i]);
    }

    int mark(int i, int kind) {
      if (notKin(i) || out(kind, 1, 5)) return BAD;
      One one = now().ones[i];
      boolean fits = switch (kind) {
        case 1 -> one instanceof Sister;
        case 2 -> one instanceof Miller;
        case 3 -> one instanceof Patched;
        case 4 -> one instanceof Julia;
        default -> one instanceof Unlisted;
      };
      if (!fits) return find(UNLIKE);
      int own = now().esteems()[i];
      return switch (kind) {
        case 1, 2 -> own - as(i, 0);
        case 3 -> as(i, 0) - own;
        case 4 -> own - as(i, 1);
        default -> as(i, 3) - own;
      };
    }

    int regard(int i, int soot, int purse) {
      if (notKin(i) || out(soot, 0, 3) || out(purse, 0, 99)) return BAD;
      return now().ones[i].esteem(soot, purse);
    }

    int quarter() {
      if (kin() == 0 || now().quarter == 99) return STATE;
      if (deeds() == 40) return FULL;
      int box = now().box();
      snaps.add(now().next());
      return box;
    }

    int soot(int i) {
      if (notKin(i)) return BAD;
      if (now().soots[i] == 3) return STATE;
      if (deeds() == 40) return FULL;
      snaps.add(now().withSoot(i, now().soots[i] + 1));
      return now().soots[i];
    }

    int wash(int i) {
      if (notKin(i)) return BAD;
      int had = now().soots[i];
      if (had == 0) return STATE;
      if (deeds() == 40) return FULL;
      snaps.add(now().withSoot(i, 0));
      return had;
    }

    int gift(int i, int j, int v) {
      if (notKin(i) || notKin(j) || i == j || out(v, 1, 99)) return BAD;
      if (now().purses[i] < v) return STATE;
      if (deeds() == 40) return FULL;
      Snap s = now();
      snaps.add(s.withPurse(i, s.purses[i] - v).withPurse(j, s.purses[j] + v));
      return now().purses[j];
    }

    int undo(int n) {
      if (out(n, 0, deeds())) return BAD;
      int many = deeds() - n;
      for (int k = 0; k < many; k++) snaps.remove(snaps.size() - 1);
      return many;
    }

    int keep(int k) {
      if (out(k, 0, 2)) return BAD;
      if (kin() == 0) return STATE;
      kept.set(k, new ArrayList<>(snaps));
      return deeds();
    }

    int on(int k) {
      if (out(k, 0, 2)) return BAD;
      if (kept.get(k) == null) return find(NOTHING);
      snaps = new ArrayList<>(kept.get(k));
      return deeds();
    }

    int box() {
      if (kin() == 0) return STATE;
      int[] e = now().esteems();
      int who = 0;
      while (e[who] < Arrays.stream(e).max().getAsInt()) who++;
      return tell(who, now().box());
    }

    int later(int i, int n) {
      if (notKin(i) || out(n, 0, 60)) return BAD;
      int paid = 0;
      for (int q = 0; q < n; q++) paid += now().behind(q).pays()[i];
      return tell(paid, now().behind(n).purses[i]);
    }

    int settles() {
      if (kin() == 0) return STATE;
      for (int q = 0; q <= 60; q++) {
        Snap s = now().behind(q);
        if (Arrays.equals(s.purses, s.next().purses)) return tell(s.box(), q);
      }
      return NONE;
    }

    int mill(int v) {
      if (out(v, 0, 99)) return BAD;
      if (kin() == 0) return STATE;
      for (int q = 0; q <= 60; q++) {
        for (int i = 0; i < kin(); i++) {
          if (now().behind(q).purses[i] >= v) return tell(q, i);
        }
      }
      return NONE;
    }

    int gains(int n) {
      if (out(n, 1, 40)) return BAD;
      if (kin() == 0) return STATE;
      int set = 0;
      for (int i = 0; i < kin(); i++) {
        int soot = now().soots[i];
        if (soot != 3 && now().withSoot(i, soot + 1).behind(n).purses[i] > now().behind(n).purses[i]) set += 1 << i;
      }
      return set;
    }

    void allSoots(int[] soots, int from, List<int[]> into) {
      if (from == soots.length) {
        into.add(soots.clone());
        return;
      }
      for (int s = 0; s <= 3; s++) {
        soots[from] = s;
        allSoots(soots, from + 1, into);
      }
    }

    int others(int[] soots) {
      int many = 0;
      for (int i = 0; i < soots.length; i++) many += soots[i] == now().soots[i] ? 0 : 1;
      return many;
    }

    int even(int i, int j, int n, int r) {
      if (notKin(i) || notKin(j) || i == j || out(n, 0, 20) || out(r, 0, 5)) return BAD;
      List<int[]> ways = new ArrayList<>();
      allSoots(new int[kin()], 0, ways);
      ways.sort(Comparator.comparingInt(this::others).thenComparing(Arrays::compare));
      for (int[] way : ways) {
        Snap then = now().withSoots(way).behind(n);
        if (then.purses[i] == then.purses[j]) {
          rows[r] = way;
          return others(way);
        }
      }
      return NONE;
    }

    int boxes(Snap s, int n) {
      int sum = 0;
      for (int q = 0; q < n; q++) {
        sum += s.box();
        s = s.next();
      }
      return sum;
    }

    int change(int n) {
      if (out(n, 1, 20)) return BAD;
      if (kin() == 0) return STATE;
      Snap s = now();
      int least = boxes(s, n), two = NONE;
      for (int code = 0; code < 100; code++) {
        int a = code / 10, b = code % 10;
        if (a >= b || b >= kin()) continue;
        One[] ones = s.ones.clone();
        ones[a] = make(s.ones[a].kind(), s.ones[b].look, s.ones[a].wants);
        ones[b] = make(s.ones[b].kind(), s.ones[a].look, s.ones[b].wants);
        int sum = boxes(new Snap(ones, s.purses, s.soots, s.quarter), n);
        if (sum < least) {
          least = sum;
          two = code;
        }
      }
      return two < 0 ? NONE : tell(least, two);
    }

    int pairs(int i, int r) {
      if (notKin(i) || out(r, 0, 5)) return BAD;
      if (rows[r] == null) return find(NOTHING);
      if ((rows[r].length & 1) == 1) return find(SIZE);
      for (int k = 0; k < rows[r].length; k += 2) {
        if (out(rows[r][k], 0, 99) || out(rows[r][k + 1], 0, 30)) return find(UNLIKE);
      }
      return 0;
    }

    boolean fits(One one, int soot, int r) {
      for (int k = 0; k < rows[r].length; k += 2) {
        if (one.esteem(soot, rows[r][k]) != rows[r][k + 1]) return false;
      }
      return true;
    }

    int looks(int i, int r) {
      int refusal = pairs(i, r);
      if (refusal < 0) return refusal;
      int set = 0;
      for (int look = 0; look < 10; look++) {
        if (fits(make(now().ones[i].kind(), look, 0), now().soots[i], r)) set += 1 << look;
      }
      return set;
    }

    int kinds(int i, int r) {
      int refusal = pairs(i, r);
      if (refusal < 0) return refusal;
      int set = 0;
      for (int kind = 0; kind < 6; kind++) {
        if (fits(make(kind, now().ones[i].look, 0), now().soots[i], r)) set += 1 << kind;
      }
      return set;
    }

    int test(int i, int r) {
      int set = kinds(i, r);
      if (set <= 0) return set < 0 ? set : NONE;
      int best = -1, least = 99;
      for (int purse = 0; purse < 100; purse++) {
        int[] parts = new int[64];
        for (int kind = 0; kind < 6; kind++) {
          if ((set & 1 << kind) != 0) parts[make(kind, now().ones[i].look, 0).esteem(now().soots[i], purse)]++;
        }
        int greatest = Arrays.stream(parts).max().getAsInt();
        if (greatest < least) {
          least = greatest;
          best = purse;
        }
      }
      return tell(least, best);
    }

    int worth(Snap s, int mover, int other, int first, int second, int n) {
      if (n == 0) {
        Snap then = s.behind(4);
        return then.purses[first] - then.purses[second];
      }
      List<Integer> worths = new ArrayList<>();
      worths.add(worth(s, other, mover, first, second, n - 1));
      int soot = s.soots[mover];
      if (soot < 3) worths.add(worth(s.withSoot(mover, soot + 1), other, mover, first, second, n - 1));
      if (soot > 0) worths.add(worth(s.withSoot(mover, 0), other, mover, first, second, n - 1));
      return mover == first ? java.util.Collections.max(worths) : java.util.Collections.min(worths);
    }

    int duel(int i, int j, int n) {
      if (notKin(i) || notKin(j) || i == j || out(n, 0, 6)) return BAD;
      return 100 + worth(now(), i, j, i, j, n);
    }

    /** Adds up, over all sets of overlooked ones, chances in twelfths times what counts in each. */
    void chances(int p, java.util.function.ToIntFunction<int[]> counts) {
      BigInteger sum = BigInteger.ZERO;
      int n = kin();
      for (int set = 0; set < 1 << n; set++) {
        int[] e = now().esteems();
        int k = Integer.bitCount(set);
        for (int i = 0; i < n; i++) if ((set & 1 << i) != 0) e[i] = 0;
        BigInteger parts = BigInteger.valueOf(p).pow(k).multiply(BigInteger.valueOf(12 - p).pow(n - k));
        sum = sum.add(parts.multiply(BigInteger.valueOf(counts.applyAsInt(Snap.pay(e)))));
      }
      BigInteger whole = BigInteger.valueOf(12).pow(n);
      BigInteger g = sum.gcd(whole);
      upper = sum.divide(g);
      lower = whole.divide(g);
    }

    int odds(int i, int v, int p) {
      if (notKin(i) || out(v, 0, 40) || out(p, 0, 12)) return BAD;
      chances(p, pays -> pays[i] >= v ? 1 : 0);
      return 1;
    }

    int mid(int p) {
      if (out(p, 0, 12)) return BAD;
      if (kin() == 0) return STATE;
      chances(p, pays -> Arrays.stream(pays).sum());
      return 1;
    }

    int lots(int n, int seed) {
      if (out(n, 1, 20) || out(seed, 1, 2147483646)) return BAD;
      if (kin() == 0) return STATE;
      if (deeds() + n > 40) return FULL;
      BigInteger lot = BigInteger.valueOf(seed);
      for (int k = 0; k < n; k++) {
        lot = lot.multiply(BigInteger.valueOf(48271)).mod(BigInteger.valueOf(2147483647));
        int it = lot.intValueExact();
        int who = (it >> 3) % kin();
        Snap s = now();
        switch (it & 3) {
          case 0 -> snaps.add(s.withSoot(who, s.soots[who] == 3 ? 0 : s.soots[who] + 1));
          case 1 -> snaps.add(s.withSoot(who, 0));
          default -> snaps.add(s.quarter == 99 ? s : s.next());
        }
      }
      return now().all();
    }

    int count(int what) {
      if (out(what, 0, 10)) return BAD;
      Snap s = now();
      switch (what) {
        case 0: return kin();
        case 1: return s == null ? 0 : s.quarter;
        case 2: return deeds();
        case 6: return (int) Arrays.stream(rows).filter(r -> r != null).count();
        case 7: return (int) Arrays.stream(texts).filter(t -> t != null).count();
        case 8: return (int) kept.stream().filter(k -> k != null).count();
        default:
      }
      if (s == null) return 0;
      switch (what) {
        case 3: return s.all();
        case 4:
          int set = 0;
          for (int i = 0; i < kin(); i++) set += s.soots[i] != 0 ? 1 << i : 0;
          return set;
        case 5: return Arrays.stream(s.esteems()).max().getAsInt();
        case 9: return (int) Arrays.stream(s.ones).filter(o -> o instanceof Sister).count();
        default: return (int) Arrays.stream(s.ones).filter(o -> o instanceof Patched).count();
      }
    }

    int findings(int f) { return out(f, 1, 5) ? BAD : found[f]; }

    long digest() {
      List<Long> all = new ArrayList<>();
      for (int what = 0; what <= 10; what++) all.add((long) count(what));
      for (int i = 0; i < kin(); i++) for (int what = 0; what <= 6; what++) all.add((long) ofOne(i, what));
      for (List<Snap> k : kept) all.add(k == null ? -1L : k.size() - 1);
      for (int[] r : rows) {
        all.add(r == null ? -1L : r.length);
        if (r != null) for (int v : r) all.add((long) v);
      }
      for (byte[] t : texts) {
        all.add(t == null ? -1L : t.length);
        if (t != null) for (byte v : t) all.add((long) v);
      }
      long h = 17;
      for (long v : all) h = h * 31 + v;
      return h;
    }
  }

  // ---- the runs

  private final Random random;
  private final int run;
  private final FiddleShares x = new FiddleShares();
  private final Model m = new Model();
  private final StringBuilder log = new StringBuilder();
  private int calls = 0;
  private boolean wrong = false;

  private ModelTest(int run) {
    this.run = run;
    this.random = new Random(run);
  }

  private void same(String call, long got, long want) {
    if (calls == CALLS) return;
    calls++;
    log.append("\n  ").append(call).append(" = ").append(got);
    if (got != want && !wrong) {
      wrong = true;
      System.out.println("run " + run + ", call " + calls + ", due is " + want + ":" + log);
    }
  }

  /** Mostly within lo .. hi, now and then just outside or far away. */
  private int number(int lo, int hi) {
    int luck = random.nextInt(60);
    if (luck == 0) return lo - 1;
    if (luck == 1) return hi + 1;
    if (luck == 2) return random.nextInt();
    if (luck == 3) return random.nextBoolean() ? Integer.MIN_VALUE : Integer.MAX_VALUE;
    if (luck < 8) return random.nextBoolean() ? lo : hi;
    return hi < lo ? lo : lo + random.nextInt(hi - lo + 1);
  }

  private int kin() { return number(0, m.kin() - 1); }

  private void putHouse() {
    StringBuilder text = new StringBuilder();
    int kin = random.nextInt(12) == 0 ? random.nextInt(8) : 2 + random.nextInt(5);
    boolean tight = random.nextInt(3) == 0;
    for (int i = 0; i < kin; i++) {
      if (!tight || random.nextInt(9) == 0) text.append(" ".repeat(random.nextInt(4)));
      text.append("ksmpju".charAt(random.nextInt(6))).append(random.nextInt(10)).append(random.nextInt(random.nextBoolean() ? 3 : 10));
      text.append(random.nextInt(10)).append(random.nextInt(10));
    }
    text.append(" ".repeat(random.nextInt(3)));
    if (text.length() > 60) text.setLength(60);
    int t = random.nextInt(4);
    int n = text.length();
    same("text(" + t + ", " + n + ")", x.text(t, n), m.text(t, n));
    for (int i = 0; i < n; i++) {
      int v = text.charAt(i);
      if (random.nextInt(300) == 0) v = random.nextInt();
      if (random.nextInt(300) == 0) v = "k0 9:/K".charAt(random.nextInt(7));
      if (v != 32) same("put(" + t + ", " + i + ", " + v + ")", x.put(t, i, v), m.put(t, i, v));
    }
    same("fault(" + t + ")", x.fault(t), m.fault(t));
    same("house(" + t + ")", x.house(t), m.house(t));
  }

  /** Pairs that one of KIN could have been REGARDED by, so that the sets are not always empty. */
  private void layPairs() {
    int r = random.nextInt(6);
    int pairs = random.nextInt(4);
    same("row(" + r + ", " + 2 * pairs + ")", x.row(r, 2 * pairs), m.row(r, 2 * pairs));
    if (m.kin() == 0) return;
    int i = random.nextInt(m.kin());
    One one = make(random.nextInt(6), m.now().ones[i].look, 0);
    for (int k = 0; k < pairs; k++) {
      int purse = random.nextInt(100);
      int regarded = random.nextInt(20) == 0 ? number(0, 30) : one.esteem(m.now().soots[i], purse);
      same("lay(" + r + ", " + 2 * k + ", " + purse + ")", x.lay(r, 2 * k, purse), m.lay(r, 2 * k, purse));
      same("lay(" + r + ", " + (2 * k + 1) + ", " + regarded + ")",
          x.lay(r, 2 * k + 1, regarded), m.lay(r, 2 * k + 1, regarded));
    }
    same("looks(" + i + ", " + r + ")", x.looks(i, r), m.looks(i, r));
    same("kinds(" + i + ", " + r + ")", x.kinds(i, r), m.kinds(i, r));
    same("test(" + i + ", " + r + ")", x.test(i, r), m.test(i, r));
  }

  private void rowCall() {
    int r = number(0, 5), i = number(0, 6), v = number(-2, 40), to = number(0, 5), j = number(0, 5), n = number(0, 6);
    switch (random.nextInt(7)) {
      case 0 -> same("row(" + r + ", " + v + ")", x.row(r, v), m.row(r, v));
      case 1 -> same("lay(" + r + ", " + i + ", " + v + ")", x.lay(r, i, v), m.lay(r, i, v));
      case 2 -> same("at(" + r + ", " + i + ")", x.at(r, i), m.at(r, i));
      case 3 -> same("tear(" + r + ")", x.tear(r), m.tear(r));
      case 4 -> same("copy(" + r + ", " + i + ", " + to + ", " + j + ", " + n + ")",
          x.copy(r, i, to, j, n), m.copy(r, i, to, j, n));
      case 5 -> same("mean(" + r + ")", x.mean(r), m.mean(r));
      default -> {
        int t = number(0, 3);
        same("put(" + t + ", " + i + ", " + v + ")", x.put(t, i, v), m.put(t, i, v));
        if (random.nextInt(5) == 0) {
          int size = number(-1, 60);
          same("text(" + t + ", " + size + ")", x.text(t, size), m.text(t, size));
        }
        same("fault(" + t + ")", x.fault(t), m.fault(t));
        if (random.nextInt(5) == 0) same("house(" + t + ")", x.house(t), m.house(t));
      }
    }
  }

  private void deedCall() {
    int i = kin(), j = kin();
    switch (random.nextInt(9)) {
      case 0, 1 -> same("quarter()", x.quarter(), m.quarter());
      case 2 -> same("soot(" + i + ")", x.soot(i), m.soot(i));
      case 3 -> same("wash(" + i + ")", x.wash(i), m.wash(i));
      case 4 -> {
        int v = random.nextBoolean() ? number(1, 9) : number(1, 99);
        same("gift(" + i + ", " + j + ", " + v + ")", x.gift(i, j, v), m.gift(i, j, v));
      }
      case 5 -> {
        int n = number(Math.max(0, m.deeds() - random.nextInt(12)), m.deeds());
        same("undo(" + n + ")", x.undo(n), m.undo(n));
      }
      case 6 -> {
        int k = number(0, 2);
        same("keep(" + k + ")", x.keep(k), m.keep(k));
      }
      case 7 -> {
        int k = number(0, 2);
        same("on(" + k + ")", x.on(k), m.on(k));
      }
      default -> {
        int n = number(1, 20), seed = random.nextBoolean() ? number(1, 2147483646) : number(1, 50);
        same("lots(" + n + ", " + seed + ")", x.lots(n, seed), m.lots(n, seed));
      }
    }
  }

  private void askCall() {
    int i = kin(), j = kin();
    switch (random.nextInt(16)) {
      case 0 -> same("box()", x.box(), m.box());
      case 1 -> {
        int n = number(0, 60);
        same("later(" + i + ", " + n + ")", x.later(i, n), m.later(i, n));
      }
      case 2 -> same("settles()", x.settles(), m.settles());
      case 3 -> {
        int v = number(0, 99);
        same("mill(" + v + ")", x.mill(v), m.mill(v));
      }
      case 4 -> {
        int n = number(1, 40);
        same("gains(" + n + ")", x.gains(n), m.gains(n));
      }
      case 5 -> {
        int n = number(0, 20), r = number(0, 5);
        if (random.nextInt(4) == 0) {
          same("even(" + i + ", " + j + ", " + n + ", " + r + ")", x.even(i, j, n, r), m.even(i, j, n, r));
        }
      }
      case 6 -> {
        int n = number(1, 20);
        same("change(" + n + ")", x.change(n), m.change(n));
      }
      case 7 -> {
        int n = number(0, 6);
        same("duel(" + i + ", " + j + ", " + n + ")", x.duel(i, j, n), m.duel(i, j, n));
      }
      case 8 -> {
        int v = random.nextBoolean() ? number(0, 40) : number(0, 10), p = number(0, 12);
        same("odds(" + i + ", " + v + ", " + p + ")", x.odds(i, v, p), m.odds(i, v, p));
      }
      case 9 -> {
        int p = number(0, 12);
        same("mid(" + p + ")", x.mid(p), m.mid(p));
      }
      case 10 -> {
        int what = number(0, 6);
        same("one(" + i + ", " + what + ")", x.one(i, what), m.one(i, what));
      }
      case 11 -> {
        int kind = number(1, 5);
        same("mark(" + i + ", " + kind + ")", x.mark(i, kind), m.mark(i, kind));
      }
      case 12 -> {
        int s = number(0, 3), p = number(0, 99);
        same("regard(" + i + ", " + s + ", " + p + ")", x.regard(i, s, p), m.regard(i, s, p));
      }
      case 13 -> {
        int what = number(0, 10), f = number(1, 5);
        same("count(" + what + ")", x.count(what), m.count(what));
        same("findings(" + f + ")", x.findings(f), m.findings(f));
      }
      case 14 -> layPairs();
      default -> {
        int r = number(0, 5);
        same("looks(" + i + ", " + r + ")", x.looks(i, r), m.looks(i, r));
        same("kinds(" + i + ", " + r + ")", x.kinds(i, r), m.kinds(i, r));
        same("test(" + i + ", " + r + ")", x.test(i, r), m.test(i, r));
      }
    }
  }

  private void compareTold() {
    same("asked()", x.asked(), m.asked);
    same("upper()", x.upper(), m.upper.longValueExact());
    same("lower()", x.lower(), m.lower.longValueExact());
    same("finding()", x.finding(), m.finding);
    same("digest()", x.digest(), m.digest());
  }

  private void play() {
    while (calls < CALLS && !wrong) {
      int luck = random.nextInt(40);
      if (luck == 0 || m.kin() == 0 && random.nextInt(8) == 0) putHouse();
      else if (luck < 8) rowCall();
      else if (luck < 24) deedCall();
      else askCall();
      if (random.nextInt(3) == 0) compareTold();
      else same("asked()", x.asked(), m.asked);
    }
  }

  public static void main(String[] args) {
    long all = 0;
    int bad = 0;
    for (int run = 1; run <= RUNS && bad < 3; run++) {
      ModelTest test = new ModelTest(run);
      test.play();
      all += test.calls;
      if (test.wrong) bad++;
    }
    System.out.println(all + " calls compared, " + bad + " runs wrong");
    if (bad != 0) System.exit(1);
  }
}
