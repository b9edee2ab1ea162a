import java.lang.reflect.Method;
import java.nio.file.Files;
import java.nio.file.Path;
import java.util.ArrayList;
import java.util.HashMap;
import java.util.HashSet;
import java.util.List;
import java.util.Map;
import java.util.Set;

/**
 * What the tests of boundaries share: a sentence of the document, and rows of calls on a new object.
 *
 * <pre>
 *   hear 5 0 = 1        the answer that is due
 *   hear 32 0 ! BAD     the answer that is due, and nothing has changed by the call
 *   hear 5 0            a step on the way: it must not be refused
 *   text '5,6:1' = 1    the letters are typed, then words() is called
 *   new                 another new object
 * </pre>
 *
 * An answer is a number, the name of a constant, or a set such as {0,31}. MIN and MAX are the least and the
 * greatest int.
 */
abstract class Edges {
  private static final Map<String, Long> NAMES = new HashMap<>(Map.of("BAD", -1L, "NOT", -2L, "FULL", -3L, "NONE", -4L, "NULL", -11L,
      "CAST", -12L, "INDEX", -13L, "SIZE", -14L, "MIN", (long) Integer.MIN_VALUE, "MAX", (long) Integer.MAX_VALUE));
  private static final Map<String, Method> CALLS = new HashMap<>();
  private static final int PARTS = 6, CALLS_ALLOWED = 512;
  private static final String DOC = document();
  private static String sentence = "";
  private static final Set<String> sentences = new HashSet<>();
  private static int asked = 0, wrong = 0;

  static {
    for (Method m : HeardNumbers.class.getMethods()) if (m.getDeclaringClass() == HeardNumbers.class) CALLS.put(m.getName(), m);
  }

  // ---- what tests say

  /** The rows hold, if this sentence of the document does. */
  static void edge(String said, String... rows) {
    of(said);
    play(rows(rows));
  }

  /** Behind these rows all is as it is behind those. */
  static void same(String said, String these, String those) {
    of(said);
    compare("behind\n" + these + "\n  all is as behind\n" + those, rows(these), rows(those));
  }

  static void of(String said) {
    sentence = said;
    sentences.add(said);
    if (DOC != null && !DOC.contains(said)) fail("there is no such sentence in the document");
  }

  static void is(String call, long got, long want) {
    asked++;
    if (got != want) fail(call + " answered " + got + ", due is " + want);
  }

  static String times(int n, String row) {
    StringBuilder s = new StringBuilder();
    for (int i = 0; i < n; i++) s.append(i == 0 ? "" : "\n").append(row);
    return s.toString();
  }

  static HeardNumbers after(String... rows) {
    Player p = new Player();
    for (String row : rows(rows)) p.play(row, true);
    return p.x;
  }

  static int tell(HeardNumbers x, String text) {
    for (char c : text.toCharArray()) x.type(c);
    return x.words();
  }

  /** What BEST tells, as a text: "21 5"; "" if there is none. */
  static String told(HeardNumbers x) {
    StringBuilder s = new StringBuilder();
    for (int k = 0; k < x.best(-2); k++) s.append(k == 0 ? "" : " ").append(x.best(k));
    return s.toString();
  }

  static void tells(String text, int kind, String want) {
    asked++;
    HeardNumbers x = new HeardNumbers();
    if (tell(x, text) < 0) fail("the text " + text);
    x.check(kind);
    String got = told(x);
    if (!got.equals(want)) fail(text + " by check " + kind + " tells '" + got + "', due is '" + want + "'");
  }

  static void fail(String why) {
    wrong++;
    if (wrong <= 40) System.out.println("\"" + sentence + "\": " + why);
  }

  static void end() {
    System.out.println(sentences.size() + " sentences, " + asked + " answers, " + wrong + " not as due");
    if (wrong != 0) System.exit(1);
  }

  // ---- how rows are played

  /** Null, if it is not there: the rows can be played without it, but then no quotation is looked up. */
  private static String document() {
    try {
      return Files.readString(Path.of("../shared/DOC.md"));
    } catch (java.io.IOException e) {
      System.out.println("../shared/DOC.md can't be read: quotations are not looked up");
      return null;
    }
  }

  private static List<String> rows(String... rows) {
    List<String> all = new ArrayList<>();
    for (String some : rows) for (String row : some.split("\n")) if (!row.isBlank()) all.add(row.trim());
    return all;
  }

  private static void play(List<String> rows) {
    Player p = new Player();
    for (int i = 0; i < rows.size(); i++) {
      p.play(rows.get(i), false);
      if (Row.of(rows.get(i)).unchanged) {
        compare("something changed by " + rows.get(i), rows.subList(0, i), rows.subList(0, i + 1));
      }
    }
  }

  /** Each part of what can be told of an object is asked of two new ones, as asking changes them. */
  private static void compare(String what, List<String> these, List<String> those) {
    for (int part = 0; part < PARTS; part++) {
      asked++;
      List<Long> one = told(these, part), other = told(those, part);
      int at = 0;
      while (at < one.size() && at < other.size() && one.get(at).equals(other.get(at))) at++;
      if (!one.equals(other)) fail(what + " (part " + part + ", from answer " + at + " on)");
    }
  }

  private static List<Long> told(List<String> rows, int part) {
    Player p = new Player();
    for (String row : rows) p.play(row, true);
    if (part > 1) return p.tellSheet(part - 2);
    if (part == 1) p.tell("restore");
    return p.tellAll();
  }

  private static final class Row {
    String call;
    String text;
    boolean asks;
    boolean unchanged;
    long want;

    static Row of(String row) {
      Row r = new Row();
      String rest = row;
      int first = row.indexOf('\''), last = row.lastIndexOf('\'');
      if (first >= 0) {
        r.text = row.substring(first + 1, last);
        rest = "text" + row.substring(last + 1);
      }
      int sign = Math.max(rest.indexOf(" = "), rest.indexOf(" ! "));
      r.asks = sign >= 0;
      r.unchanged = r.asks && rest.charAt(sign + 1) == '!';
      r.call = (r.asks ? rest.substring(0, sign) : rest).trim();
      if (r.asks) r.want = number(rest.substring(sign + 3).trim());
      return r;
    }

    static long number(String s) {
      if (!s.startsWith("{")) return NAMES.containsKey(s) ? NAMES.get(s) : Long.parseLong(s);
      long set = 0;
      for (String bit : s.substring(1, s.length() - 1).split(",")) if (!bit.isBlank()) set |= 1L << Integer.parseInt(bit.trim());
      return set;
    }
  }

  private static final class Player {
    HeardNumbers x = new HeardNumbers();
    int calls = 0;
    final List<Long> out = new ArrayList<>();

    void play(String row, boolean again) {
      if (row.equals("new")) {
        x = new HeardNumbers();
        calls = 0;
        return;
      }
      Row r = Row.of(row);
      long got = r.text != null ? tellText(r.text) : call(r.call);
      if (again) return;
      if (r.asks) is(row, got, r.want);
      else if (got < 0) fail(row + " was refused by " + got);
    }

    long tellText(String text) {
      for (char c : text.toCharArray()) call("type " + (int) c);
      return call("words");
    }

    long call(String call) {
      if (++calls > CALLS_ALLOWED) throw new IllegalStateException("more than 512 calls on one object: " + sentence);
      String[] part = call.split(" +");
      Method m = CALLS.get(part[0]);
      if (m == null || m.getParameterCount() != part.length - 1) throw new IllegalStateException("no such call: " + call);
      Object[] with = new Object[part.length - 1];
      for (int i = 0; i < with.length; i++) {
        long v = Row.number(part[i + 1]);
        with[i] = m.getParameterTypes()[i] == long.class ? (Object) v : (Object) (int) v;
      }
      try {
        return ((Number) m.invoke(x, with)).longValue();
      } catch (ReflectiveOperationException e) {
        fail(call + " threw " + e.getCause());
        return Long.MIN_VALUE;
      }
    }

    long tell(String call) {
      long got = call(call);
      out.add(got);
      return got;
    }

    List<Long> tellAll() {
      tellSlots();
      for (int k = -2; k < 4; k++) tell("best " + k);
      for (int k = 0; k < 3; k++) tell("counted " + k + " " + k % 2);
      tell("likely " + Math.max(0, call("best 0")) + " 0");
      tell("likely 5 1");
      tell("seed 7");
      for (int i = 0; i < 9; i++) {
        tell("undo");
        for (int what = 0; what < 3; what++) tell("count " + what);
        tell("slot 0 -1 0");
        tell("slot 0 0 0");
        tell("seed 8");
      }
      tell("type 53");
      tell("words");
      tellSlots();
      return out;
    }

    private void tellSlots() {
      for (int what = 0; what < 11; what++) tell("count " + what);
      int slots = (int) call("count 0");
      for (int s = 0; s < slots; s++) {
        int many = (int) tell("slot " + s + " -1 0");
        for (int k = 0; k < many; k++) for (int what = 0; what < 2; what++) tell("slot " + s + " " + k + " " + what);
        tell("taken " + s);
        tell("open " + s);
      }
    }

    /** Items can be told from one another where they are 1 .. 9. */
    List<Long> tellSheet(int sheet) {
      int lane = -1;
      call("check 0");
      for (int v = 0; v < 4; v++) if (tell("meant " + sheet + " " + v + " 0 1") != NAMES.get("CAST")) lane = v;
      for (int v = 1; v < 10; v++) {
        call("say " + v);
        boolean there = true;
        for (int i = 0; there && i < 24; i++) there = tell("meant " + sheet + " " + lane + " " + i + " 1") >= 0;
      }
      tell("drop " + sheet);
      return out;
    }
  }
}
