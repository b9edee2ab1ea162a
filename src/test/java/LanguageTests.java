import java.lang.management.ManagementFactory;
import java.lang.reflect.Array;
import java.lang.reflect.Field;
import java.lang.reflect.Method;
import java.lang.reflect.Modifier;
import java.nio.file.Files;
import java.nio.file.Path;
import java.util.ArrayDeque;
import java.util.ArrayList;
import java.util.Arrays;
import java.util.Collections;
import java.util.Deque;
import java.util.HashSet;
import java.util.IdentityHashMap;
import java.util.List;
import java.util.Set;
import java.util.TreeSet;
import java.util.regex.Matcher;
import java.util.regex.Pattern;

/** The public face, the room that an object takes, and what of LANGUAGE.md can be read off the text. */
public final class LanguageTests {
  private static final String FACE = "int type(int) int words() int say(int) int slot(int,int,int) int count(int) "
      + "int hear(int,int) int also(int,int,int) int lose(int) int settle(int,int) int check(int) int slack(int) int storm(int) "
      + "int undo() int seed(int) int best(int) int taken(int) long open(int) int counted(int,int) long likely(int,int) "
      + "int image() int restore() int meant(int,int,int,int) int film(int,int,int) int sheet(int,int,int) int drop(int) "
      + "int item(int,int,int,long) int copy(int,int,int,int,int)";
  private static final String CONSTANTS = "BAD -1,NOT -2,FULL -3,NONE -4,NULL -11,CAST -12,INDEX -13,SIZE -14";
  private static int wrong = 0;

  private static void must(boolean holds, String what) {
    if (!holds) {
      wrong++;
      System.out.println("does not hold: " + what);
    }
  }

  private static void face() throws Exception {
    Class<?> c = HeardNumbers.class;
    must(Modifier.isPublic(c.getModifiers()) && Modifier.isFinal(c.getModifiers()), "the class is public and final");
    Set<String> methods = new TreeSet<>();
    for (Method m : c.getDeclaredMethods()) {
      if (Modifier.isPrivate(m.getModifiers())) continue;
      must(Modifier.isPublic(m.getModifiers()) && !Modifier.isStatic(m.getModifiers()), m + " is of the face");
      StringBuilder s = new StringBuilder(m.getReturnType() + " " + m.getName() + "(");
      for (Class<?> p : m.getParameterTypes()) s.append(s.charAt(s.length() - 1) == '(' ? "" : ",").append(p);
      methods.add(s + ")");
    }
    must(methods.equals(new TreeSet<>(Arrays.asList(FACE.split(" (?=int |long )")))), "the methods are those of the face: " + methods);
    Set<String> constants = new TreeSet<>();
    for (Field f : c.getDeclaredFields()) {
      if (Modifier.isPrivate(f.getModifiers())) continue;
      must(f.getModifiers() == (Modifier.PUBLIC | Modifier.STATIC | Modifier.FINAL), f + " is a public constant");
      constants.add(f.getName() + " " + f.getInt(null));
    }
    must(constants.equals(new TreeSet<>(Arrays.asList(CONSTANTS.split(",")))), "the constants are those of the face: " + constants);
    must(c.getConstructors().length == 1 && c.getDeclaredConstructors().length == 1, "there is one constructor");
  }

  private static void classes() {
    List<Class<?>> all = new ArrayList<>(List.of(HeardNumbers.class.getDeclaredClasses()));
    must(all.size() < 12, "rule 11: some twelve classes");
    for (Class<?> c : all) {
      must(Modifier.isStatic(c.getModifiers()) && !Modifier.isPublic(c.getModifiers()) && !Modifier.isProtected(c.getModifiers()), "rule 1: " + c);
    }
    Set<String> open = new HashSet<>();
    for (Method m : HeardNumbers.class.getMethods()) if (m.getDeclaringClass() == HeardNumbers.class) open.add(m.getName());
    all.add(HeardNumbers.class);
    for (Class<?> c : all) {
      int own = 0;
      for (Field f : c.getDeclaredFields()) {
        if (Modifier.isStatic(f.getModifiers())) must(Modifier.isFinal(f.getModifiers()), "rule 5: " + f); else own++;
      }
      must(own <= 20, "rule 11: twenty fields in " + c);
      for (Method m : c.getDeclaredMethods()) {
        must(m.getParameterCount() <= 7, "rule 11: seven parameters of " + m);
        must(c == HeardNumbers.class && Modifier.isPublic(m.getModifiers()) || !open.contains(m.getName()), "rule 1: the name of " + m);
      }
    }
  }

  private static void text() throws Exception {
    String source = Files.readString(Path.of("src/main/java/HeardNumbers.java"));
    String code = source.replaceAll("(?s)/\\*.*?\\*/", " ").replaceAll("//[^\n]*", " ");
    for (String word : "throw throws try catch synchronized assert import package protected yield volatile transient native finally".split(" ")) {
      must(!Pattern.compile("\\b" + word + "\\b").matcher(code).find(), "the word " + word + " is not in the code");
    }
    must(!code.contains("->") && !code.contains("::"), "rule 2: no lambda, no method reference");
    Matcher m = Pattern.compile("\\b(Math|Long|Integer|System|Arrays|String|StringBuilder)\\b(\\.\\w+)?").matcher(code);
    Set<String> library = new TreeSet<>();
    while (m.find()) library.add(m.group());
    for (String use : library) {
      boolean ofNumbers = use.matches("(Math|Long|Integer)(\\.\\w+)?") && !use.endsWith("Exact");
      must(ofNumbers || Set.of("System.arraycopy", "Arrays.copyOf", "Arrays.copyOfRange", "Arrays.fill", "String", "StringBuilder").contains(use), "rule 4: " + use);
    }
    for (char c : source.toCharArray()) must(c == '\n' || c >= 32 && c < 127, "plain signs");
    methodLengths(source);
  }

  private static void methodLengths(String source) {
    String[] lines = source.split("\n");
    int from = -1;
    for (int i = 0; i < lines.length; i++) {
      if (lines[i].matches("( {4}| {8})[a-zA-Z].*\\) \\{")) from = i;
      if (lines[i].matches("( {4}| {8})\\}") && from >= 0) {
        must(i - from < 60, "rule 11: a short method at line " + (from + 1));
        from = -1;
      }
    }
  }

  /** All runs share one room, so an object must be small, and calls must make no new ones. */
  private static void room() throws Exception {
    HeardNumbers x = new HeardNumbers();
    Set<Object> found = Collections.newSetFromMap(new IdentityHashMap<>());
    Deque<Object> open = new ArrayDeque<>(List.of(x));
    int elements = 0;
    while (!open.isEmpty()) {
      Object o = open.pop();
      if (!found.add(o)) continue;
      if (o.getClass().isArray()) {
        elements += Array.getLength(o);
        if (o instanceof Object[] row) for (Object e : row) if (e != null) open.push(e);
        continue;
      }
      for (Field f : o.getClass().getDeclaredFields()) {
        if (Modifier.isStatic(f.getModifiers())) continue;
        elements++;
        f.setAccessible(true);
        if (!f.getType().isPrimitive() && f.get(o) != null) open.push(f.get(o));
      }
    }
    System.out.println("an object: " + found.size() + " objects and arrays, " + elements + " fields and elements");
    must(found.size() < 200 && elements < 4000, "an object is small");
    callsMakeNothing(x);
  }

  private static void callsMakeNothing(HeardNumbers x) {
    com.sun.management.ThreadMXBean bean = (com.sun.management.ThreadMXBean) ManagementFactory.getThreadMXBean();
    long id = Thread.currentThread().getId();
    bean.getThreadAllocatedBytes(id);
    long before = bean.getThreadAllocatedBytes(id);
    for (int round = 0; round < 100; round++) someCalls(x, round);
    long made = bean.getThreadAllocatedBytes(id) - before;
    must(made < 20000, "calls make no objects: " + made + " bytes in 4000 calls");
  }

  private static void someCalls(HeardNumbers x, int round) {
    x.type('5');
    x.type(',');
    x.type('6');
    x.words();
    x.hear(31, 0);
    x.hear(7, 1);
    x.also(2, 13, 2);
    x.storm(8);
    x.check(round % 5);
    x.slack(round % 21);
    for (int what = 0; what < 11; what++) x.count(what);
    x.best(0);
    x.taken(0);
    x.open(0);
    x.counted(0, 1);
    x.likely(13, 0);
    x.image();
    x.undo();
    x.settle(0, 5);
    x.lose(0);
    x.restore();
    x.sheet(round % 4, round % 3, 24);
    x.film(round % 4, round % 3, 2);
    x.item(round % 4, round % 3, 5, round);
    x.meant(round % 4, round % 3, 2, 2);
    x.copy(round % 4, 0, round % 4, 1, 20);
    x.drop(round % 3);
    x.say(round);
  }

  public static void main(String[] args) throws Exception {
    face();
    classes();
    text();
    room();
    System.out.println(wrong == 0 ? "the face and the rules hold" : wrong + " do not hold");
    if (wrong != 0) System.exit(1);
  }
}
