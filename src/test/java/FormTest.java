import java.io.IOException;
import java.lang.management.ManagementFactory;
import java.lang.reflect.Array;
import java.lang.reflect.Constructor;
import java.lang.reflect.Field;
import java.lang.reflect.Method;
import java.lang.reflect.Modifier;
import java.nio.file.Files;
import java.nio.file.Path;
import java.util.ArrayDeque;
import java.util.ArrayList;
import java.util.Collections;
import java.util.Deque;
import java.util.IdentityHashMap;
import java.util.List;
import java.util.Set;
import java.util.TreeSet;
import java.util.regex.Matcher;
import java.util.regex.Pattern;

/** The class has the document's face and no other, keeps to the rules of LANGUAGE.md, and makes little. */
public final class FormTest {
  private static final String SOURCE = "src/main/java/FiddleShares.java";
  private static final String DOCUMENT = "../shared/DOC.md";
  private static final String FACE =
      "int row(int,int); int lay(int,int,int); int at(int,int); int tear(int); int copy(int,int,int,int,int);"
      + " int mean(int); int text(int,int); int put(int,int,int); int fault(int); int house(int); int one(int,int);"
      + " int mark(int,int); int regard(int,int,int); int quarter(); int soot(int); int wash(int);"
      + " int gift(int,int,int); int undo(int); int keep(int); int on(int); int box(); int later(int,int);"
      + " int settles(); int mill(int); int gains(int); int even(int,int,int,int); int change(int);"
      + " int looks(int,int); int kinds(int,int); int test(int,int); int duel(int,int,int); int odds(int,int,int);"
      + " int mid(int); int lots(int,int); int asked(); long upper(); long lower(); int count(int); int finding();"
      + " int findings(int); long digest()";

  private static int wrong = 0;

  public static void main(String[] args) throws Exception {
    face();
    faceAsInTheDocument();
    constants();
    members();
    words();
    shapes();
    size();
    callsMakeNothing();
    extremes();
    System.out.println(wrong == 0 ? "the form is as due" : wrong + " faults of form");
    if (wrong != 0) {
      System.exit(1);
    }
  }

  private static void hold(boolean holds, String what) {
    if (!holds) {
      wrong++;
      System.out.println("form: " + what);
    }
  }

  private static void face() {
    Class<?> c = FiddleShares.class;
    hold(Modifier.isPublic(c.getModifiers()) && Modifier.isFinal(c.getModifiers()), "the class is public and final");
    Set<String> want = new TreeSet<>(List.of(FACE.split("; *")));
    Set<String> got = new TreeSet<>();
    for (Method m : c.getDeclaredMethods()) {
      if (Modifier.isPublic(m.getModifiers())) {
        got.add(signature(m));
      }
    }
    hold(got.equals(want), "the public methods are those of the document: " + got);
    Constructor<?>[] made = c.getConstructors();
    hold(made.length == 1 && made[0].getParameterCount() == 0, "one public constructor without parameters");
  }

  /** Each line of the document's face stands in the source as it stands there, the parameters' names too. */
  private static void faceAsInTheDocument() throws IOException {
    String document = Files.readString(Path.of(DOCUMENT));
    int from = document.indexOf("```java\n");
    int to = document.indexOf("```", from + 3);
    hold(from >= 0 && to > from, "the document shows the face");
    String source = Files.readString(Path.of(SOURCE));
    int members = 0;
    for (String line : document.substring(Math.max(0, from), Math.max(0, to)).split("\n")) {
      String member = line.strip();
      if (member.startsWith("public ")) {
        members++;
        String wanted = member.endsWith(");") ? member.substring(0, member.length() - 1) + " {" : member;
        hold(source.contains("\n" + line.substring(0, line.indexOf(member)) + wanted + "\n"), "the face has " + member);
      }
    }
    hold(members == 1 + 1 + 1 + FACE.split("; *").length, "the document's face has as many members as this test");
  }

  private static String signature(Method m) {
    List<String> types = new ArrayList<>();
    for (Class<?> p : m.getParameterTypes()) {
      types.add(p.getName());
    }
    return m.getReturnType().getName() + " " + m.getName() + "(" + String.join(",", types) + ")";
  }

  private static void constants() throws IllegalAccessException {
    Set<String> got = new TreeSet<>();
    for (Field f : FiddleShares.class.getFields()) {
      got.add(f.getName() + " " + f.getInt(null));
    }
    hold(got.equals(new TreeSet<>(List.of("BAD -1", "FULL -2", "FINDING -3", "STATE -4", "SPENT -6", "NONE -9"))),
        "the public constants are those of the document: " + got);
  }

  private static void members() {
    Set<String> open = new TreeSet<>();
    Class<?> c = FiddleShares.class;
    for (Method m : c.getDeclaredMethods()) {
      if (Modifier.isPublic(m.getModifiers())) {
        open.add(m.getName());
      } else {
        hold(Modifier.isPrivate(m.getModifiers()), m.getName() + " is public or private");
      }
    }
    for (Field f : c.getDeclaredFields()) {
      hold(Modifier.isPublic(f.getModifiers()) || Modifier.isPrivate(f.getModifiers()), f.getName() + " is private");
    }
    List<Class<?>> all = new ArrayList<>(List.of(c));
    all.addAll(List.of(c.getDeclaredClasses()));
    hold(all.size() <= 12, "at most twelve classes");
    for (Class<?> k : all) {
      int fields = 0;
      for (Field f : k.getDeclaredFields()) {
        boolean fixed = Modifier.isStatic(f.getModifiers());
        hold(!fixed || Modifier.isFinal(f.getModifiers()), f.getName() + " is static and not final");
        fields += fixed ? 0 : 1;
      }
      hold(fields <= 20, k.getName() + " has at most twenty fields");
      hold(k == c || Modifier.isStatic(k.getModifiers()), k.getName() + " is static");
      hold(k == c || !Modifier.isPublic(k.getModifiers()) && !Modifier.isProtected(k.getModifiers()),
          k.getName() + " is private or package-visible");
      for (Method m : k.getDeclaredMethods()) {
        hold(m.getParameterCount() <= 7, m.getName() + " takes at most seven parameters");
        hold(Modifier.isPublic(m.getModifiers()) || !open.contains(m.getName()),
            m.getName() + " bears the name of a public method");
      }
    }
  }

  private static String code() throws IOException {
    String text = Files.readString(Path.of(SOURCE));
    return text.replaceAll("(?s)/\\*.*?\\*/", "").replaceAll("//[^\n]*", "");
  }

  private static void words() throws IOException {
    String code = code();
    String[] never = {"\\bthrow\\b", "\\bthrows\\b", "\\btry\\b", "\\bcatch\\b", "\\bsynchronized\\b", "\\bassert\\b",
        "->", "::", "Exact\\s*\\(", "\\bpackage\\b", "\\bSystem\\.(?!arraycopy)", "\\bArrays\\.(?!fill|copyOf)",
        // booleans are joined by && and ||, which rule 10 lists
        "[|&^]=[^;]*([!=<>]=|!)",
        "\\bstatic\\s*\\{", "\\bprotected\\b", "\\bRandom\\b", "\\bThread\\b", "\\bvar\\b", "\\bString\\b", "\\bObject\\b"};
    for (String word : never) {
      Matcher m = Pattern.compile(word).matcher(code);
      hold(!m.find(), "the code has no " + word);
    }
    Matcher imports = Pattern.compile("import\\s+([^;]+);").matcher(code);
    while (imports.find()) {
      hold(imports.group(1).equals("java.util.Arrays"), "imports " + imports.group(1));
    }
    for (char sign : Files.readString(Path.of(SOURCE)).toCharArray()) {
      if (sign > 126) {
        hold(false, "a sign beyond 126 in the source");
        break;
      }
    }
  }

  private static void shapes() throws IOException {
    String[] lines = Files.readString(Path.of(SOURCE)).split("\n");
    Pattern head = Pattern.compile("^( {4}| {8})(?!private static final class)\\w.*\\) \\{$");
    for (int at = 0; at < lines.length; at++) {
      Matcher m = head.matcher(lines[at]);
      if (!m.find()) {
        continue;
      }
      int end = at;
      while (end < lines.length && !lines[end].equals(m.group(1) + "}")) {
        end++;
      }
      hold(end - at <= 60, "a method of more than sixty lines at line " + (at + 1));
    }
  }

  /** Objects and arrays, and fields and elements, that hang on a new object. */
  private static void size() throws IllegalAccessException {
    Set<Object> seen = Collections.newSetFromMap(new IdentityHashMap<>());
    Deque<Object> open = new ArrayDeque<>(List.of(new FiddleShares()));
    int cells = 0;
    while (!open.isEmpty()) {
      Object o = open.pop();
      if (!seen.add(o)) {
        continue;
      }
      if (o.getClass().isArray()) {
        cells += Array.getLength(o);
        if (o instanceof Object[] parts) {
          open.addAll(List.of(parts));
        }
        continue;
      }
      for (Field f : o.getClass().getDeclaredFields()) {
        if (Modifier.isStatic(f.getModifiers())) {
          continue;
        }
        cells++;
        f.setAccessible(true);
        if (!f.getType().isPrimitive() && f.get(o) != null) {
          open.add(f.get(o));
        }
      }
    }
    System.out.println("a new object: " + seen.size() + " objects and arrays, " + cells + " fields and elements");
    hold(seen.size() <= 60 && cells <= 1200, "a new object is small");
  }

  private static FiddleShares sixKin() {
    FiddleShares x = new FiddleShares();
    String text = "s5422 u8300 m6237 p3411 k7504 j2319";
    x.text(0, text.length());
    for (int i = 0; i < text.length(); i++) {
      x.put(0, i, text.charAt(i));
    }
    x.house(0);
    return x;
  }

  /** What each call makes stays in the one room of a run, so no call makes anything. */
  private static void callsMakeNothing() {
    var threads = (com.sun.management.ThreadMXBean) ManagementFactory.getThreadMXBean();
    FiddleShares x = sixKin();
    callAll(x);
    long before = threads.getCurrentThreadAllocatedBytes();
    for (int k = 0; k < 50; k++) {
      callAll(x);
    }
    long made = threads.getCurrentThreadAllocatedBytes() - before;
    hold(made < 1000, "50 times all calls made " + made + " bytes");
  }

  private static long callAll(FiddleShares x) {
    long sum = x.row(1, 40) + x.lay(1, 3, 5) + x.at(1, 3) + x.copy(1, 0, 1, 2, 9) + x.mean(1) + x.tear(1);
    sum += x.text(1, 60) + x.put(1, 4, 9) + x.fault(0) + x.house(0) + x.one(3, 6) + x.mark(1, 3) + x.regard(2, 1, 50);
    sum += x.quarter() + x.soot(2) + x.wash(2) + x.gift(0, 1, 5) + x.keep(1) + x.on(1) + x.undo(2) + x.box();
    sum += x.later(3, 60) + x.settles() + x.mill(99) + x.gains(40) + x.even(1, 2, 6, 2) + x.even(0, 5, 1, 3);
    sum += x.change(20) + x.row(4, 0) + x.looks(3, 4) + x.kinds(3, 4) + x.test(3, 4) + x.duel(0, 3, 6);
    sum += x.odds(2, 3, 5) + x.mid(7) + x.lots(20, 12345) + x.asked() + x.upper() + x.lower() + x.count(5);
    return sum + x.finding() + x.findings(2) + x.digest() + x.at(5, 5);
  }

  /** Every call with every mix of odd numbers, with and without KIN: none throws. */
  private static void extremes() throws Exception {
    int[] odd = {Integer.MIN_VALUE, -1, 0, 1, 5, 6, 41, Integer.MAX_VALUE};
    for (Method m : FiddleShares.class.getDeclaredMethods()) {
      if (!Modifier.isPublic(m.getModifiers())) {
        continue;
      }
      int many = m.getParameterCount();
      int mixes = 1;
      for (int k = 0; k < many; k++) {
        mixes *= odd.length;
      }
      for (int mix = 0; mix < mixes; mix++) {
        Object[] args = new Object[many];
        for (int k = 0, rest = mix; k < many; k++, rest /= odd.length) {
          args[k] = odd[rest % odd.length];
        }
        m.invoke(new FiddleShares(), args);
        m.invoke(sixKin(), args);
      }
    }
  }
}
