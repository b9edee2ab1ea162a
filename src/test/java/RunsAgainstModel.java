import java.math.BigInteger;
import java.util.ArrayList;
import java.util.Arrays;
import java.util.HashMap;
import java.util.HashSet;
import java.util.LinkedHashMap;
import java.util.List;
import java.util.Map;
import java.util.Random;
import java.util.Set;
import java.util.regex.Matcher;
import java.util.regex.Pattern;

/**
 * Long runs of calls by draws, on the class and on a plain model side by side. The model keeps to the
 * document's words with lists, copies and patterns, and shares nothing with the class.
 */
public final class RunsAgainstModel {
  private static final int BAD = -1, NOT = -2, FULL = -3, NONE = -4, NULL = -11, CAST = -12, INDEX = -13, SIZE = -14;
  private static int wrong = 0;
  private static final Pattern UNSAID = Pattern.compile("(?<![0-9])0[1-9]");
  private static final Map<String, Set<Long>> seen = new HashMap<>();

  // ---- the model

  private record Candidate(int word, int cost) {}

  private record Reading(List<Integer> words, int cost, long weight, List<Integer> numbers) {}

  private record State(List<List<Candidate>> slots, int kind, int slack, int draw) {
    State with(List<List<Candidate>> s) { return new State(s, kind, slack, draw); }
  }

  private record Row(int lane, long[] items) {}

  private record Picture(State state, List<State> past) {}

  private static final class Model {
    State now = new State(List.of(), 0, 0, 1);
    List<State> past = new ArrayList<>();
    Picture picture;
    String tape = "";
    final Row[] sheets = new Row[4];
    private List<List<Candidate>> readFor;
    private List<Reading> read;

    // which readings there are

    static final String LOW = "(?:d|e|yd?)", SMALL = "(?:" + LOW + "|dh(?:a?" + LOW + ")?)";
    static final Pattern NUMBER = Pattern.compile(SMALL + "(?:t(?:" + SMALL + "|a" + LOW + ")?)?");

    static char sort(int w) {
      if (w == 0) return 'n';
      if (w <= 9) return 'd';
      if (w <= 19) return 'e';
      if (w <= 27) return 'y';
      return "htas".charAt(w - 28);
    }

    static int low(List<Integer> ws) {
      int sum = 0;
      for (int w : ws) sum += w == 30 ? 0 : w < 20 ? w : new int[] {20, 30, 40, 50, 60, 70, 80, 90}[w - 20];
      return sum;
    }

    static int small(List<Integer> ws) {
      int h = ws.indexOf(28);
      return h < 0 ? low(ws) : 100 * low(ws.subList(0, h)) + low(ws.subList(h + 1, ws.size()));
    }

    /** -1: it is no number. */
    static int number(List<Integer> ws) {
      StringBuilder sorts = new StringBuilder();
      for (int w : ws) sorts.append(sort(w));
      Matcher m = NUMBER.matcher(sorts);
      if (!m.matches()) return -1;
      int t = ws.indexOf(29);
      return t < 0 ? small(ws) : 1000 * small(ws.subList(0, t)) + small(ws.subList(t + 1, ws.size()));
    }

    static List<Integer> numbers(List<Integer> words) {
      List<Integer> out = new ArrayList<>();
      List<Integer> part = new ArrayList<>();
      List<Integer> all = new ArrayList<>(words);
      all.add(31);
      for (int w : all) {
        if (w == 0) continue;
        if (w != 31) { part.add(w); continue; }
        int v = number(part);
        if (v < 0) return null;
        out.add(v);
        part = new ArrayList<>();
      }
      return out;
    }

    List<Reading> said() {
      if (readFor == now.slots()) return read;
      List<Reading> out = new ArrayList<>();
      int all = 1;
      for (List<Candidate> s : now.slots()) all *= s.size();
      for (int code = 0; code < all; code++) {
        List<Integer> words = new ArrayList<>();
        int cost = 0, rest = code, span = all;
        long weight = 1;
        for (List<Candidate> s : now.slots()) {
          span /= s.size();
          Candidate c = s.get(rest / span);
          rest %= span;
          words.add(c.word());
          cost += c.cost();
          weight *= 10 - c.cost();
        }
        List<Integer> numbers = numbers(words);
        if (numbers != null) out.add(new Reading(words, cost, weight, numbers));
      }
      readFor = now.slots();
      read = out;
      return out;
    }

    static boolean holds(int kind, List<Integer> ns) {
      int n = ns.size(), last = ns.get(n - 1), sum = -last;
      for (int v : ns) sum += v;
      if (kind == 1) return n > 1 && sum == last;
      if (kind == 3) return n > 1 && (sum - last) % 100 == 0;
      Set<Integer> steps = new HashSet<>();
      for (int i = 1; i < n; i++) steps.add(ns.get(i) - ns.get(i - 1));
      for (int s : steps) if (kind != 0 && s <= 0) return false;
      return kind != 4 || steps.size() <= 1;
    }

    List<Reading> sound(int kind) {
      List<Reading> out = new ArrayList<>();
      for (Reading r : said()) if (holds(kind, r.numbers())) out.add(r);
      return out;
    }

    Reading bestBy(int kind) {
      Reading b = null;
      for (Reading r : sound(kind)) if (b == null || r.cost() < b.cost()) b = r;
      return b;
    }

    Reading best() { return bestBy(now.kind()); }

    List<Reading> countedOnes() {
      Reading b = best();
      List<Reading> out = new ArrayList<>();
      for (Reading r : sound(now.kind())) if (r.cost() <= b.cost() + now.slack()) out.add(r);
      return out;
    }

    static Map<Integer, List<Reading>> parts(List<Reading> rs, int slot) {
      Map<Integer, List<Reading>> out = new LinkedHashMap<>();
      for (Reading r : rs) out.computeIfAbsent(r.words().get(slot), w -> new ArrayList<>()).add(r);
      return out;
    }

    int look(List<Reading> rs) {
      int slot = NONE, fewest = Integer.MAX_VALUE;
      for (int i = 0; i < now.slots().size(); i++) {
        Map<Integer, List<Reading>> p = parts(rs, i);
        if (p.size() < 2) continue;
        int most = 0;
        for (List<Reading> part : p.values()) most = Math.max(most, part.size());
        if (most < fewest) { fewest = most; slot = i; }
      }
      return slot;
    }

    int ask(List<Reading> rs) {
      Set<List<Integer>> told = new HashSet<>();
      for (Reading r : rs) told.add(r.numbers());
      int slot = look(rs);
      if (told.size() == 1 || slot == NONE) return 0;
      int most = 0;
      for (List<Reading> part : parts(rs, slot).values()) most = Math.max(most, ask(part));
      return 1 + most;
    }

    int next() {
      Reading b = best();
      int least = NONE;
      for (Reading r : sound(now.kind()))
        if (!r.numbers().equals(b.numbers()) && (least == NONE || r.cost() < least)) least = r.cost();
      return least;
    }

    int spoilt() {
      Reading b = best();
      if (b == null) return NONE;
      int n = 0;
      for (int i = 0; i < now.slots().size(); i++) {
        for (Candidate c : now.slots().get(i)) {
          if (c.word() == b.words().get(i)) continue;
          List<Integer> words = new ArrayList<>(b.words());
          words.set(i, c.word());
          List<Integer> ns = numbers(words);
          if (ns != null && !holds(now.kind(), ns)) n++;
        }
      }
      return n;
    }

    // the calls

    boolean isSlot(int s) { return s >= 0 && s < now.slots().size(); }

    static boolean in(int v, int from, int to) { return v >= from && v <= to; }

    void done(State s) {
      past.add(now);
      if (past.size() > 8) past.remove(0);
      now = s;
    }

    List<List<Candidate>> slotsWith(int slot, List<Candidate> s) {
      List<List<Candidate>> out = new ArrayList<>(now.slots());
      out.set(slot, s);
      return out;
    }

    static <T> List<T> plus(List<T> list, T t) {
      List<T> out = new ArrayList<>(list);
      out.add(t);
      return out;
    }

    boolean has(int slot, int word) { return now.slots().get(slot).stream().anyMatch(c -> c.word() == word); }

    long type(int letter) {
      if (!in(letter, 32, 126)) return BAD;
      if (tape.length() == 120) return FULL;
      tape += (char) letter;
      return tape.length();
    }

    static final Map<String, Integer> NAMES = new HashMap<>(Map.of("h", 28, "t", 29, "a", 30, "s", 31, "n", 0));

    static {
      for (int i = 1; i <= 19; i++) NAMES.put("" + i, i);
      for (int i = 1; i <= 9; i++) NAMES.put("0" + i, i);
      for (int i = 2; i <= 9; i++) NAMES.put(i + "0", 18 + i);
    }

    /** Tokens first: {text, place}; the last one is the end. */
    static List<String[]> tokens(String text) {
      List<String[]> out = new ArrayList<>();
      Matcher m = Pattern.compile("[0-9]{1,2}|[^ ]").matcher(text);
      while (m.find()) out.add(new String[] {m.group(), "" + m.start()});
      out.add(new String[] {"", "" + text.length()});
      return out;
    }

    long words() {
      List<String[]> ts = tokens(tape);
      tape = "";
      List<List<Candidate>> slots = new ArrayList<>();
      int at = 0;
      boolean opens = true;
      while (ts.size() > 1) {
        Integer word = NAMES.get(ts.get(at)[0]);
        int place = Integer.parseInt(ts.get(at)[1]);
        if (word == null) return -20 - place;
        if (opens) slots.add(new ArrayList<>());
        List<Candidate> slot = slots.get(slots.size() - 1);
        for (Candidate c : slot) if (c.word() == word) return -20 - place;
        at++;
        int cost = 0;
        if (ts.get(at)[0].equals(":")) {
          String t = ts.get(++at)[0];
          place = Integer.parseInt(ts.get(at)[1]);
          if (!t.matches("[0-9]{1,2}")) return -20 - place;
          if (t.length() == 2) return -20 - place - 1;
          cost = Integer.parseInt(t);
          at++;
        }
        slot.add(new Candidate(word, cost));
        String t = ts.get(at)[0];
        if (t.isEmpty()) break;
        opens = t.equals(";");
        if (opens ? slots.size() == 8 : !t.equals(",") || slot.size() == 4) return -20 - Integer.parseInt(ts.get(at)[1]);
        at++;
      }
      return anew(slots);
    }

    long anew(List<List<Candidate>> slots) {
      now = now.with(slots);
      past.clear();
      return slots.size();
    }

    static void sayBelow(int v, List<Integer> out) {
      if (v >= 100) { out.add(v / 100); out.add(28); v %= 100; }
      if (v >= 20) { out.add(18 + v / 10); v %= 10; }
      if (v > 0) out.add(v);
    }

    long say(int v) {
      if (!in(v, 1, 999999)) return BAD;
      List<Integer> ws = new ArrayList<>();
      sayBelow(v / 1000, ws);
      if (v >= 1000) ws.add(29);
      sayBelow(v % 1000, ws);
      if (ws.size() > 8) return FULL;
      List<List<Candidate>> slots = new ArrayList<>();
      for (int w : ws) slots.add(List.of(new Candidate(w, 0)));
      return anew(slots);
    }

    long slot(int slot, int k, int what) {
      if (!isSlot(slot) || k < -1 || !in(what, 0, 1)) return BAD;
      List<Candidate> s = now.slots().get(slot);
      if (k == -1) return s.size();
      if (k >= s.size()) return NONE;
      return what == 0 ? s.get(k).word() : s.get(k).cost();
    }

    long count(int what) {
      if (!in(what, 0, 10)) return BAD;
      List<Reading> counted = what >= 5 && what <= 7 ? countedOnes() : null;
      return switch (what) {
        case 0 -> now.slots().size();
        case 1 -> now.kind();
        case 2 -> now.slack();
        case 3 -> said().size();
        case 4 -> sound(now.kind()).size();
        case 5 -> counted.size();
        case 6 -> look(counted);
        case 7 -> counted.isEmpty() || counted.size() > 60 ? NONE : ask(counted);
        case 8 -> next();
        case 9 -> spoilt();
        default -> past.size();
      };
    }

    long hear(int word, int cost) {
      if (!in(word, 0, 31) || !in(cost, 0, 9)) return BAD;
      if (now.slots().size() == 8) return FULL;
      done(now.with(plus(now.slots(), List.of(new Candidate(word, cost)))));
      return now.slots().size();
    }

    long also(int slot, int word, int cost) {
      if (!isSlot(slot) || !in(word, 0, 31) || !in(cost, 0, 9)) return BAD;
      if (has(slot, word)) return NOT;
      List<Candidate> s = now.slots().get(slot);
      if (s.size() == 4) return FULL;
      done(now.with(slotsWith(slot, plus(s, new Candidate(word, cost)))));
      return s.size() + 1;
    }

    long lose(int slot) {
      if (!isSlot(slot)) return BAD;
      List<List<Candidate>> slots = new ArrayList<>(now.slots());
      slots.remove(slot);
      done(now.with(slots));
      return slots.size();
    }

    long settle(int slot, int word) {
      if (!isSlot(slot) || !in(word, 0, 31)) return BAD;
      List<Candidate> s = now.slots().get(slot);
      if (!has(slot, word) || s.size() == 1) return NOT;
      done(now.with(slotsWith(slot, s.stream().filter(c -> c.word() == word).toList())));
      return s.size() - 1;
    }

    long check(int kind) {
      if (!in(kind, 0, 4)) return BAD;
      int was = now.kind();
      if (was == kind) return NOT;
      done(new State(now.slots(), kind, now.slack(), now.draw()));
      return was;
    }

    long slack(int n) {
      if (!in(n, 0, 20)) return BAD;
      int was = now.slack();
      if (was == n) return NOT;
      done(new State(now.slots(), now.kind(), n, now.draw()));
      return was;
    }

    long storm(int n) {
      if (!in(n, 1, 40)) return BAD;
      for (int i = 0; i < n; i++) {
        long product = BigInteger.valueOf(now.draw()).multiply(BigInteger.valueOf(1103515245)).add(BigInteger.valueOf(12345))
            .mod(BigInteger.valueOf(1L << 31)).longValueExact();
        long x = product / 65536;
        List<List<Candidate>> slots = now.slots();
        if (!slots.isEmpty()) {
          int slot = (int) (x % slots.size());
          int word = (int) (x / 8 % 32);
          List<Candidate> s = slots.get(slot);
          if (s.size() < 4 && !has(slot, word)) slots = slotsWith(slot, plus(s, new Candidate(word, (int) (x / 256 % 10))));
        }
        done(new State(slots, now.kind(), now.slack(), (int) product));
      }
      return now.slots().stream().mapToInt(List::size).sum();
    }

    long undo() {
      if (past.isEmpty()) return NONE;
      now = past.remove(past.size() - 1);
      return past.size();
    }

    long seed(int v) {
      if (v < 0) return BAD;
      int was = now.draw();
      now = new State(now.slots(), now.kind(), now.slack(), v);
      return was;
    }

    long best(int k) {
      if (k < -2) return BAD;
      Reading b = best();
      if (b == null) return NONE;
      if (k == -1) return b.cost();
      if (k == -2) return b.numbers().size();
      return k < b.numbers().size() ? b.numbers().get(k) : NONE;
    }

    long taken(int slot) {
      if (!isSlot(slot)) return BAD;
      return best() == null ? NONE : best().words().get(slot);
    }

    long open(int slot) {
      if (!isSlot(slot)) return BAD;
      long set = 0;
      for (Reading r : countedOnes()) set |= 1L << r.words().get(slot);
      return set;
    }

    long counted(int k, int what) {
      if (k < 0 || !in(what, 0, 1)) return BAD;
      List<Reading> rs = countedOnes();
      if (k >= rs.size()) return NONE;
      Reading r = rs.get(k);
      return what == 0 ? r.cost() : r.numbers().get(r.numbers().size() - 1);
    }

    long likely(int v, int what) {
      if (!in(v, 0, 999999) || !in(what, 0, 1)) return BAD;
      BigInteger above = BigInteger.ZERO, below = BigInteger.ZERO;
      for (Reading r : sound(now.kind())) {
        BigInteger w = BigInteger.valueOf(r.weight());
        below = below.add(w);
        if (r.numbers().get(r.numbers().size() - 1) == v) above = above.add(w);
      }
      if (below.signum() == 0) return NONE;
      return (what == 0 ? above : below).divide(above.gcd(below)).longValueExact();
    }

    long image() {
      picture = new Picture(now, new ArrayList<>(past));
      return 1;
    }

    long restore() {
      if (picture == null) return NONE;
      now = picture.state();
      past = new ArrayList<>(picture.past());
      return 1;
    }

    static boolean isSheet(int s, int lane) { return in(s, 0, 3) && in(lane, 0, 3); }

    static boolean fits(Row r, long i, long n) { return i >= 0 && n >= 0 && i + n <= r.items().length; }

    static int refused(Row r, int lane, int i, int n) {
      if (r == null) return NULL;
      if (r.lane() != lane) return CAST;
      return fits(r, i, n) ? 0 : INDEX;
    }

    static long cut(int lane, long v) {
      int drop = new int[] {56, 48, 32, 0}[lane];
      return v << drop >> drop;
    }

    long meant(int sheet, int lane, int i, int n) {
      if (!isSheet(sheet, lane) || !in(n, 1, 6)) return BAD;
      int no = refused(sheets[sheet], lane, i, n);
      if (no != 0) return no;
      List<Long> row = new ArrayList<>();
      for (int k = 0; k < n; k++) row.add(sheets[sheet].items()[i + k]);
      int set = 0;
      for (int kind = 0; kind < 5; kind++) {
        Reading b = bestBy(kind);
        if (b != null && b.numbers().stream().map(Integer::longValue).toList().equals(row)) set |= 1 << kind;
      }
      return set;
    }

    long film(int sheet, int lane, int i) {
      if (!isSheet(sheet, lane)) return BAD;
      Reading b = best();
      if (b == null) return NONE;
      int no = refused(sheets[sheet], lane, i, b.numbers().size());
      if (no != 0) return no;
      for (int k = 0; k < b.numbers().size(); k++) sheets[sheet].items()[i + k] = cut(lane, b.numbers().get(k));
      return b.numbers().size();
    }

    long sheet(int sheet, int lane, int n) {
      if (!isSheet(sheet, lane) || n > 24) return BAD;
      if (n < 0) return SIZE;
      sheets[sheet] = new Row(lane, new long[n]);
      return n;
    }

    long drop(int sheet) {
      if (!in(sheet, 0, 3)) return BAD;
      if (sheets[sheet] == null) return NULL;
      int had = sheets[sheet].items().length;
      sheets[sheet] = null;
      return had;
    }

    long item(int sheet, int lane, int i, long v) {
      if (!isSheet(sheet, lane)) return BAD;
      int no = refused(sheets[sheet], lane, i, 1);
      if (no != 0) return no;
      sheets[sheet].items()[i] = cut(lane, v);
      return 1;
    }

    long copy(int from, int i, int to, int j, int n) {
      if (!in(from, 0, 3) || !in(to, 0, 3)) return BAD;
      Row a = sheets[from], b = sheets[to];
      if (a == null || b == null) return NULL;
      if (a.lane() != b.lane()) return CAST;
      if (!fits(a, i, n) || !fits(b, j, n)) return INDEX;
      long[] taken = Arrays.copyOfRange(a.items(), i, i + n);
      for (int k = 0; k < n; k++) b.items()[j + k] = taken[k];
      return n;
    }
  }

  // ---- the runs

  private final Random draw;
  private final HeardNumbers x = new HeardNumbers();
  private final Model m = new Model();
  private final StringBuilder log = new StringBuilder();
  private int calls = 0;
  private boolean broken = false;

  private RunsAgainstModel(long seed) { draw = new Random(seed); }

  private void due(String call, long got, long want) {
    calls++;
    log.append(call).append(" = ").append(got).append('\n');
    String sort = call.startsWith("count(") ? call : call.substring(0, call.indexOf('('));
    seen.computeIfAbsent(sort, s -> new HashSet<>()).add(want < 0 && want > -20 ? want : want == 0 ? 0 : 1L);
    if (got != want && !broken) {
      broken = true;
      wrong++;
      String all = log.toString();
      System.out.println(all.substring(Math.max(0, all.length() - 1500)) + "due is " + want + "\n");
    }
  }

  private int pick(int... of) { return of[draw.nextInt(of.length)]; }

  /** Mostly from .. to, at times just outside or far off. */
  private int near(int from, int to) {
    int d = draw.nextInt(60);
    if (d == 0) return from - 1;
    if (d == 1) return to + 1;
    if (d == 2) return pick(Integer.MIN_VALUE, Integer.MAX_VALUE, -1, 1 << 16);
    return from + draw.nextInt(to - from + 1);
  }

  private int word() {
    return switch (draw.nextInt(8)) {
      case 0 -> 31;
      case 1 -> 0;
      case 2 -> 28 + draw.nextInt(3);
      case 3 -> 20 + draw.nextInt(8);
      case 4 -> near(0, 31);
      default -> 1 + draw.nextInt(9);
    };
  }

  private String wordText() {
    int w = word();
    if (w == 0 || w < 0 || w > 31) return "n";
    if (w >= 28) return "" + "htas".charAt(w - 28);
    return "" + (w < 20 ? w : (w - 18) * 10);
  }

  private String noisy(String word, int more) {
    StringBuilder s = new StringBuilder(word);
    for (int i = 0; i < more; i++) {
      if (draw.nextInt(3) > 0) s.append(':').append(draw.nextInt(10));
      s.append(',').append(wordText());
    }
    if (draw.nextInt(3) == 0) s.append(':').append(draw.nextInt(10));
    return s.toString();
  }

  /** Words that are numbers with stops between, mostly: so that readings are said at all. */
  private String text() {
    List<String> words = new ArrayList<>();
    int most = draw.nextInt(5) == 0 ? 3 : 1;
    int step = 1 + draw.nextInt(9), from = 1 + draw.nextInt(9), sum = 0;
    int sort = draw.nextInt(4);
    for (int i = 0; i < 4; i++) {
      int v = sort == 0 ? from + i * step : sort == 1 ? from + draw.nextInt(20) : draw.nextInt(4) == 0 ? 1 + draw.nextInt(999999) : 1 + draw.nextInt(300);
      if (sort == 1 && i == 2 && draw.nextBoolean()) v = sum;
      sum += v;
      List<Integer> ws = new ArrayList<>();
      Model.sayBelow(v / 1000, ws);
      if (v >= 1000) ws.add(29);
      Model.sayBelow(v % 1000, ws);
      if (words.size() + ws.size() + 1 > 8) break;
      if (i > 0) words.add("s");
      for (int w : ws) {
        if (w < 20 && words.size() < 6 && !words.isEmpty() && words.get(words.size() - 1).equals("h") && draw.nextBoolean()) words.add("a");
        words.add(w >= 28 ? "" + "ht".charAt(w - 28) : "" + (w < 20 ? w : (w - 18) * 10));
      }
    }
    StringBuilder s = new StringBuilder();
    for (int i = 0; i < words.size(); i++) s.append(i == 0 ? "" : ";").append(noisy(words.get(i), draw.nextInt(most + 1)));
    String spoilt = spoil(new StringBuilder(s));
    // whether 05 is a number is left unsaid
    return UNSAID.matcher(spoilt).find() ? s.toString() : spoilt;
  }

  private String spoil(StringBuilder s) {
    for (int i = draw.nextInt(3); i > 0; i--) s.insert(draw.nextInt(s.length() + 1), ' ');
    if (draw.nextInt(4) == 0) s.insert(draw.nextInt(s.length() + 1), "0123456789;,:htasnx ".charAt(draw.nextInt(20)));
    if (draw.nextInt(12) == 0 && s.length() > 0) s.deleteCharAt(draw.nextInt(s.length()));
    if (draw.nextInt(15) == 0) s.append(";n;n;n;n;n;n");
    return s.toString();
  }

  private void tell(String text) {
    for (char c : text.toCharArray()) due("type(" + (int) c + ")", x.type(c), m.type(c));
    if (draw.nextInt(9) == 0) { int c = pick(31, 127, -1, 0, 233, 65536 + 53); due("type(" + c + ")", x.type(c), m.type(c)); }
    due("words()", x.words(), m.words());
  }

  private int slot() { return near(0, Math.max(0, m.now.slots().size() - 1)); }

  private void act() {
    int a = slot(), w = word(), c = near(0, 9);
    switch (draw.nextInt(14)) {
      case 0 -> due("hear(" + w + ", " + c + ")", x.hear(w, c), m.hear(w, c));
      case 1, 2 -> due("also(" + a + ", " + w + ", " + c + ")", x.also(a, w, c), m.also(a, w, c));
      case 3 -> { if (draw.nextInt(3) == 0) due("lose(" + a + ")", x.lose(a), m.lose(a)); }
      case 4 -> {
        int k = m.isSlot(a) && draw.nextInt(4) > 0 ? m.now.slots().get(a).get(0).word() : w;
        due("settle(" + a + ", " + k + ")", x.settle(a, k), m.settle(a, k));
      }
      case 5, 6 -> { int k = near(0, 4); due("check(" + k + ")", x.check(k), m.check(k)); }
      case 7 -> { int k = near(0, 20); due("slack(" + k + ")", x.slack(k), m.slack(k)); }
      case 8 -> {
        int k = draw.nextInt(3) > 0 ? near(1, 6) : near(1, 40);
        due("storm(" + k + ")", x.storm(k), m.storm(k));
      }
      case 9, 10 -> { for (int i = draw.nextInt(4); i >= 0; i--) due("undo()", x.undo(), m.undo()); }
      case 11 -> { int v = draw.nextInt(8) == 0 ? 0 : draw.nextInt(); due("seed(" + v + ")", x.seed(v), m.seed(v)); }
      case 12 -> { if (draw.nextBoolean()) due("image()", x.image(), m.image()); else due("restore()", x.restore(), m.restore()); }
      default -> {
        if (draw.nextInt(4) == 0) {
          int v = draw.nextInt(3) == 0 ? near(1, 999999) : near(1, 3000);
          due("say(" + v + ")", x.say(v), m.say(v));
        } else if (draw.nextInt(3) == 0) {
          tell(text());
        }
      }
    }
  }

  private void ask() {
    int a = slot(), k = near(0, 4), what = near(0, 1);
    switch (draw.nextInt(9)) {
      // how many CANDIDATES there are is asked for with what 0 or 1 alone: the document leaves the rest unsaid
      case 0 -> {
        int q = near(-1, 4), p = q == -1 ? draw.nextInt(2) : what;
        due("slot(" + a + ", " + q + ", " + p + ")", x.slot(a, q, p), m.slot(a, q, p));
      }
      case 1, 2, 3 -> { int q = near(0, 10); due("count(" + q + ")", x.count(q), m.count(q)); }
      case 4 -> { int q = near(-2, 3); due("best(" + q + ")", x.best(q), m.best(q)); }
      case 5 -> due("taken(" + a + ")", x.taken(a), m.taken(a));
      case 6 -> due("open(" + a + ")", x.open(a), m.open(a));
      case 7 -> {
        int q = draw.nextInt(4) == 0 ? near(0, 200) : k;
        due("counted(" + q + ", " + what + ")", x.counted(q, what), m.counted(q, what));
      }
      default -> {
        long last = m.counted(Math.max(0, k), 1);
        int v = last > 0 && draw.nextInt(4) > 0 ? (int) last : near(0, 999999);
        due("likely(" + v + ", 0)", x.likely(v, 0), m.likely(v, 0));
        due("likely(" + v + ", " + what + ")", x.likely(v, what), m.likely(v, what));
      }
    }
  }

  private int laneOf(int sheet) {
    return Model.in(sheet, 0, 3) && m.sheets[sheet] != null && draw.nextInt(15) > 0 ? m.sheets[sheet].lane() : near(0, 3);
  }

  private void useSheets() {
    int s = near(0, 3), lane = laneOf(s), i = near(0, 6);
    switch (draw.nextInt(8)) {
      case 0 -> {
        int l = near(0, 3), n = draw.nextBoolean() ? near(0, 24) : near(4, 8);
        due("sheet(" + s + ", " + l + ", " + n + ")", x.sheet(s, l, n), m.sheet(s, l, n));
      }
      case 1 -> { if (draw.nextInt(4) == 0) due("drop(" + s + ")", x.drop(s), m.drop(s)); }
      case 2 -> {
        long v = draw.nextInt(3) == 0 ? draw.nextLong() : 1 + draw.nextInt(40);
        due("item(" + s + ", " + lane + ", " + i + ", " + v + ")", x.item(s, lane, i, v), m.item(s, lane, i, v));
      }
      case 3 -> {
        int to = near(0, 3), j = near(0, 6), n = near(-1, 6);
        due("copy(" + s + ", " + i + ", " + to + ", " + j + ", " + n + ")", x.copy(s, i, to, j, n), m.copy(s, i, to, j, n));
      }
      case 4, 5 -> {
        due("film(" + s + ", " + lane + ", " + i + ")", x.film(s, lane, i), m.film(s, lane, i));
        int n = (int) Math.max(1, m.best(-2));
        due("meant(" + s + ", " + lane + ", " + i + ", " + n + ")", x.meant(s, lane, i, n), m.meant(s, lane, i, n));
      }
      default -> { int n = near(1, 6); due("meant(" + s + ", " + lane + ", " + i + ", " + n + ")", x.meant(s, lane, i, n), m.meant(s, lane, i, n)); }
    }
  }

  /** All that can be asked, so that nothing that a run has spoilt stays hidden. */
  private void lookAtAll() {
    for (int q = 0; q <= 10; q++) due("count(" + q + ")", x.count(q), m.count(q));
    for (int q = -2; q <= 4; q++) due("best(" + q + ")", x.best(q), m.best(q));
    for (int a = 0; a < m.now.slots().size(); a++) {
      due("taken(" + a + ")", x.taken(a), m.taken(a));
      due("open(" + a + ")", x.open(a), m.open(a));
      for (int k = -1; k < 4; k++) due("slot(" + a + ", " + k + ", 1)", x.slot(a, k, 1), m.slot(a, k, 1));
      for (int k = 0; k < 4; k++) due("slot(" + a + ", " + k + ", 0)", x.slot(a, k, 0), m.slot(a, k, 0));
    }
  }

  private void run() {
    tell(text());
    // what comes behind these, and a text, stays within the 512 calls
    while (calls < 280) {
      int d = draw.nextInt(10);
      if (d < 3) act(); else if (d < 8) ask(); else useSheets();
      if (d == 9 && draw.nextInt(30) == 0) tell(text());
      if (broken) return;
    }
    lookAtAll();
  }

  /** A test by draws that never came by an answer would prove nothing of it. */
  private static void mustHaveSeen(String sort, long... answers) {
    for (long a : answers) {
      if (!seen.getOrDefault(sort, Set.of()).contains(a)) {
        wrong++;
        System.out.println("no run had " + sort + " answer " + a);
      }
    }
  }

  public static void main(String[] args) {
    int runs = args.length > 0 ? Integer.parseInt(args[0]) : 2000;
    int from = args.length > 1 ? Integer.parseInt(args[1]) : 0;
    for (int i = 0; i < runs && wrong < 5; i++) new RunsAgainstModel(from + i).run();
    mustHaveSeen("type", 1, BAD);
    mustHaveSeen("say", 1, BAD, FULL);
    mustHaveSeen("slot", 0, 1, BAD, NONE);
    mustHaveSeen("hear", 1, BAD, FULL);
    mustHaveSeen("also", 1, BAD, NOT, FULL);
    mustHaveSeen("lose", 0, 1, BAD);
    mustHaveSeen("settle", 1, BAD, NOT);
    mustHaveSeen("check", 0, 1, BAD, NOT);
    mustHaveSeen("slack", 0, 1, BAD, NOT);
    mustHaveSeen("storm", 0, 1, BAD);
    mustHaveSeen("undo", 0, 1, NONE);
    mustHaveSeen("seed", 0, 1, BAD);
    mustHaveSeen("best", 0, 1, BAD, NONE);
    mustHaveSeen("taken", 0, 1, BAD, NONE);
    mustHaveSeen("open", 0, 1, BAD);
    mustHaveSeen("counted", 0, 1, BAD, NONE);
    mustHaveSeen("likely", 0, 1, BAD, NONE);
    mustHaveSeen("restore", 1, NONE);
    mustHaveSeen("meant", 0, 1, BAD, NULL, CAST, INDEX);
    mustHaveSeen("film", 1, BAD, NONE, NULL, CAST, INDEX);
    mustHaveSeen("sheet", 0, 1, BAD, SIZE);
    mustHaveSeen("drop", 1, BAD, NULL);
    mustHaveSeen("item", 1, BAD, NULL, CAST, INDEX);
    mustHaveSeen("copy", 0, 1, BAD, NULL, CAST, INDEX);
    for (int q : new int[] {6, 7, 8, 9}) mustHaveSeen("count(" + q + ")", 0, 1, NONE);
    System.out.println(wrong == 0 ? runs + " runs are as the model has them" : wrong + " faults");
    if (wrong != 0) System.exit(1);
  }
}
