import java.io.File;
import java.io.PrintWriter;
import java.io.StringWriter;
import java.util.ArrayList;
import java.util.Arrays;
import java.util.List;
import java.util.Map;
import java.util.Set;
import java.util.TreeMap;
import java.util.TreeSet;
import java.util.regex.Matcher;
import java.util.regex.Pattern;
import java.util.spi.ToolProvider;

/** Those rules of LANGUAGE.md that can be read off the compiled class: what calls what, and what is made where. */
public final class BytecodeTests {
  private static final Pattern CLASS = Pattern.compile("^(?:public |abstract |final )*class (\\S+).*\\{$");
  private static final Pattern METHOD = Pattern.compile("^  (?:\\S+ )*?(\\S+)\\(.*\\);$");
  private static final Pattern CODE = Pattern.compile("^ +\\d+: (\\w+)(?:.*// (?:Interface)?Method (\\S+):\\S+)?.*$");
  private static final Set<String> MAKING = Set.of("new", "newarray", "anewarray", "multianewarray");
  private static final Set<String> RULED_OUT = Set.of("athrow", "monitorenter", "monitorexit", "invokedynamic", "invokeinterface", "checkcast", "putstatic");
  private static final Set<String> LIBRARY = Set.of("java/lang/Object.<init>", "java/lang/System.arraycopy", "java/lang/Math.max", "java/lang/Math.min",
      "java/lang/Math.abs", "java/lang/Long.bitCount", "java/lang/Integer.bitCount", "java/util/Arrays.fill");
  private static final int DEEPEST = 8;

  private static final Map<String, Set<String>> calls = new TreeMap<>();
  private static int wrong = 0;

  private static void must(boolean holds, String what) {
    if (!holds) {
      wrong++;
      System.out.println("does not hold: " + what);
    }
  }

  private static String listing() throws Exception {
    File folder = new File(HeardNumbers.class.getProtectionDomain().getCodeSource().getLocation().toURI());
    List<String> args = new ArrayList<>(List.of("-p", "-c"));
    File[] files = folder.listFiles((in, name) -> name.matches("HeardNumbers(\\$\\w+)?\\.class"));
    Arrays.sort(files);
    for (File f : files) args.add(f.getPath());
    StringWriter out = new StringWriter();
    ToolProvider javap = ToolProvider.findFirst("javap").orElseThrow();
    PrintWriter to = new PrintWriter(out);
    must(javap.run(to, to, args.toArray(new String[0])) == 0, "javap can read the class");
    to.flush();
    return out.toString();
  }

  private static void read(String listing) {
    String owner = "", method = "";
    for (String line : listing.split("\n")) {
      Matcher c = CLASS.matcher(line), m = METHOD.matcher(line), code = CODE.matcher(line);
      must(!line.contains("Exception table:"), "rule 6: no catch in " + owner + "." + method);
      must(!line.matches("  static \\{\\};"), "rule 5: no static initialiser in " + owner);
      if (c.matches()) {
        owner = c.group(1);
      } else if (m.matches()) {
        method = m.group(1).equals(owner) ? "<init>" : m.group(1);
        must(calls.put(owner + "." + method, new TreeSet<>()) == null, "this test takes names to be unlike: " + owner + "." + method);
      } else if (code.matches()) {
        look(owner, method, code.group(1), code.group(2));
      }
    }
  }

  private static void look(String owner, String method, String does, String called) {
    String here = owner + "." + method;
    must(!RULED_OUT.contains(does), does + " in " + here);
    must(!MAKING.contains(does) || method.equals("<init>"), "objects and rows are made with the object alone, not in " + here);
    if (called == null) return;
    String name = called.replace("\"", "");
    if (!name.contains(".")) name = owner + "." + name;
    boolean own = name.startsWith("HeardNumbers");
    must(own || LIBRARY.contains(name), "rule 4: " + name + " in " + here);
    if (own) calls.get(here).add(name);
  }

  /** How many calls stand open at once, from this one on. */
  private static int depth(String method, List<String> open) {
    if (open.contains(method)) {
      must(false, "no method calls itself: " + open + " " + method);
      return 0;
    }
    must(calls.containsKey(method), "there is " + method);
    open.add(method);
    int deepest = 0;
    for (String called : calls.getOrDefault(method, Set.of())) deepest = Math.max(deepest, depth(called, open));
    open.remove(open.size() - 1);
    return 1 + deepest;
  }

  public static void main(String[] args) throws Exception {
    read(listing());
    int deepest = 0;
    for (String method : calls.keySet()) deepest = Math.max(deepest, depth(method, new ArrayList<>()));
    must(deepest > 1 && deepest <= DEEPEST, "rule 11: calls go at most eight deep, here " + deepest);
    must(calls.keySet().stream().filter(m -> m.startsWith("HeardNumbers.")).count() >= 28, "the methods of the face were read");
    System.out.println(wrong == 0 ? calls.size() + " methods, " + deepest + " calls deep at most, as the rules want" : wrong + " do not hold");
    if (wrong != 0) System.exit(1);
  }
}
