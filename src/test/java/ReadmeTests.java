import java.io.IOException;
import java.lang.reflect.Method;
import java.net.URL;
import java.net.URLClassLoader;
import java.nio.file.Files;
import java.nio.file.Path;
import java.util.ArrayList;
import java.util.Comparator;
import java.util.List;
import java.util.regex.Matcher;
import java.util.regex.Pattern;
import java.util.stream.Stream;
import javax.tools.JavaCompiler;
import javax.tools.ToolProvider;

/** README.md: its examples compile and answer as it says, and it names every call and every test. */
public final class ReadmeTests {
  private static final Pattern BLOCK = Pattern.compile("(?ms)^```java\n(.*?)^```");
  private static final Pattern ASKED = Pattern.compile("(x\\.\\w+\\(.*\\)); *// (-?\\d+|[A-Z]+)(:.*)?");
  private static int wrong = 0, answers = 0;

  private static void must(boolean holds, String what) {
    if (!holds) {
      wrong++;
      System.out.println("does not hold: " + what);
    }
  }

  /** Called by the examples. */
  public static void due(String line, long got, long want) {
    answers++;
    must(got == want, line + " (it answered " + got + ")");
  }

  /** The example as it stands, but that each line with an answer behind it hands this answer to due. */
  private static String program(String name, String example) {
    StringBuilder s = new StringBuilder("public final class " + name + " {\n  public static void main(String[] args) {\n");
    for (String line : example.split("\n")) {
      Matcher m = ASKED.matcher(line);
      boolean asked = m.matches();
      must(asked || !line.contains("//"), "an answer stands first behind // in: " + line);
      if (!asked) {
        s.append(line).append('\n');
        continue;
      }
      String want = m.group(2).matches("[A-Z]+") ? "HeardNumbers." + m.group(2) : m.group(2) + "L";
      s.append("ReadmeTests.due(\"" + line.replace("\\", "\\\\").replace("\"", "\\\"") + "\", " + m.group(1) + ", " + want + ");\n");
    }
    return s + "  }\n}\n";
  }

  private static void play(Path folder, String name, String example) throws Exception {
    Path file = folder.resolve(name + ".java");
    Files.writeString(file, program(name, example));
    JavaCompiler compiler = ToolProvider.getSystemJavaCompiler();
    String path = System.getProperty("java.class.path");
    boolean compiled = compiler != null && compiler.run(null, null, null, "-cp", path, "-d", folder.toString(), file.toString()) == 0;
    must(compiled, "this example compiles:\n" + example);
    if (!compiled) return;
    int ahead = answers;
    try (URLClassLoader loader = new URLClassLoader(new URL[] {folder.toUri().toURL()}, ReadmeTests.class.getClassLoader())) {
      loader.loadClass(name).getMethod("main", String[].class).invoke(null, (Object) new String[0]);
    }
    must(answers > ahead, "this example shows answers:\n" + example);
  }

  private static void examples(String readme) throws Exception {
    Path folder = Files.createTempDirectory("readme");
    int many = 0;
    for (Matcher m = BLOCK.matcher(readme); m.find(); many++) play(folder, "Example" + many, m.group(1));
    must(many > 0, "there are examples");
    List<Path> made = new ArrayList<>();
    try (Stream<Path> all = Files.walk(folder)) {
      all.sorted(Comparator.reverseOrder()).forEach(made::add);
    }
    for (Path p : made) Files.delete(p);
  }

  private static void names(String readme) throws IOException {
    for (Method m : HeardNumbers.class.getMethods()) {
      if (m.getDeclaringClass() != HeardNumbers.class) continue;
      must(readme.contains("`" + m.getName() + "`"), "the call " + m.getName() + " is told");
      must(readme.contains("x." + m.getName() + "("), "the call " + m.getName() + " is shown in an example");
    }
    try (Stream<Path> tests = Files.list(Path.of("src/test/java"))) {
      for (Path p : tests.toList()) {
        String name = p.getFileName().toString().replace(".java", "");
        must(readme.contains("`" + name + "`"), "the test " + name + " is told");
      }
    }
    must(readme.contains("`.ci/run`") && Files.isExecutable(Path.of(".ci/run")), "how to run the tests is told");
  }

  public static void main(String[] args) throws Exception {
    String readme = Files.readString(Path.of("README.md"));
    examples(readme);
    names(readme);
    System.out.println(wrong == 0 ? answers + " answers are as README.md says" : wrong + " do not hold");
    if (wrong != 0) System.exit(1);
  }
}
