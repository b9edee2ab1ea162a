import java.math.BigInteger;

/** Boundaries of what is done, promises 7 to 15: hear, also, lose, settle, check, slack, storm, undo, seed. */
public final class EdgesOfDoings extends Edges {
  private static final String SHEETS = "sheet 0 1 2\nitem 0 1 1 7\nsheet 3 3 0\n";

  // ---- 7 hear, 8 also, 9 lose, 10 settle

  private static void hearing() {
    edge("HEARD: how many SLOTS. BAD; FULL: 8.", "hear -1 0 ! BAD", "hear 32 0 ! BAD", "hear MIN 0 ! BAD", "hear MAX 0 ! BAD", "hear 0 -1 ! BAD", "hear 0 10 ! BAD", "hear 0 MIN ! BAD", "hear 0 MAX ! BAD",
        "hear 0 0 = 1", "hear 31 9 = 2", "hear 0 9 = 3", "hear 31 0 = 4", "slot 0 0 0 ! 0", "slot 0 0 1 ! 0", "slot 1 0 0 ! 31", "slot 1 0 1 ! 9", "hear 5 5 = 5", "hear 5 5 = 6", "hear 5 5 = 7", "hear 5 5 = 8", "hear 5 5 ! FULL", "hear 0 0 ! FULL",
        "lose 3 = 7", "hear 6 6 = 8", "slot 7 0 0 ! 6", "hear 6 6 ! FULL");
    edge("HEARD: a SLOT behind all others, with one CANDIDATE.", "text '5,6,7,8;9,10,11,12'", "hear 13 3 = 3", "slot 2 -1 0 ! 1", "slot 2 0 0 ! 13", "slot 2 0 1 ! 3", "slot 2 1 0 ! NONE", "slot 0 -1 0 ! 4", "slot 1 3 0 ! 12");
    edge("HEARD: a SLOT behind all others, with one CANDIDATE.", "text '5;6,7,8,9'", "lose 1", "hear 1 1 = 2", "slot 1 -1 0 ! 1", "slot 1 0 0 ! 1", "slot 1 1 0 ! NONE");
    for (int w = 0; w < 32; w++) edge("HEARD: a SLOT behind all others, with one CANDIDATE.", "hear " + w + " " + w % 10 + " = 1", "slot 0 0 0 ! " + w, "slot 0 0 1 ! " + w % 10);
  }

  private static void another() {
    String said = "ALSO: how many CANDIDATES it has. BAD; NOT: it has the WORD; FULL: 4.";
    edge(said, "also 0 5 0 ! BAD", "text '5;6'", "also -1 7 0 ! BAD", "also 2 7 0 ! BAD", "also MIN 7 0 ! BAD", "also MAX 7 0 ! BAD", "also 0 -1 0 ! BAD", "also 0 32 0 ! BAD", "also 0 MIN 0 ! BAD", "also 0 MAX 0 ! BAD",
        "also 0 7 -1 ! BAD", "also 0 7 10 ! BAD", "also 0 7 MIN ! BAD", "also 0 7 MAX ! BAD", "also 0 0 0 = 2", "also 0 31 9 = 3", "also 1 31 0 = 2", "also 1 0 9 = 3", "also 1 6 5 ! NOT", "also 0 5 0 ! NOT", "also 0 31 9 ! NOT",
        "also 0 30 1 = 4", "also 0 29 1 ! FULL", "also 0 30 1 ! NOT", "also 0 5 9 ! NOT", "also 1 5 0 = 4", "also 1 7 0 ! FULL");
    edge("ALSO: a CANDIDATE more of a SLOT, behind its others.", "text '5:1,6:2;7:3;8'", "also 1 9 4 = 2", "slot 0 -1 0 ! 2", "slot 1 0 0 ! 7", "slot 1 0 1 ! 3", "slot 1 1 0 ! 9", "slot 1 1 1 ! 4", "slot 1 2 0 ! NONE", "slot 2 -1 0 ! 1", "slot 2 0 0 ! 8");
  }

  private static void losing() {
    String said = "LOST: how many SLOTS there are. BAD.";
    edge(said, "lose 0 ! BAD", "text '5'", "lose -1 ! BAD", "lose 1 ! BAD", "lose MIN ! BAD", "lose MAX ! BAD", "lose 0 = 0", "lose 0 ! BAD", "best 0 ! NONE");
    edge(said, "text '1;2;3;4;5;6;7;8'", "lose 8 ! BAD", "lose 7 = 7", "lose 7 ! BAD", "slot 6 0 0 ! 7", "lose 0 = 6", "slot 0 0 0 ! 2", "slot 5 0 0 ! 7", "slot 6 0 0 ! BAD");
    for (int lost = 0; lost < 8; lost++) {
      of("LOST: a SLOT goes.");
      HeardNumbers x = after("text '1:1;1,2:1;1,2,3:1;1,2,3,4:1;5:2;6,7:2;8,9,10:2;11,12,13,14:2'");
      is("lose(" + lost + ")", x.lose(lost), 7);
      for (int i = 0; i < 7; i++) {
        int was = i < lost ? i : i + 1, many = was % 4 + 1;
        is("slot(" + i + ", -1, 0)", x.slot(i, -1, 0), many);
        is("slot(" + i + ", last, 0)", x.slot(i, many - 1, 0), new int[] {1, 2, 3, 4, 5, 7, 10, 14}[was]);
        is("slot(" + i + ", last, 1)", x.slot(i, many - 1, 1), was < 4 ? 1 : 2);
      }
      is("slot(7, -1, 0)", x.slot(7, -1, 0), -1);
    }
  }

  private static void settling() {
    String said = "SETTLED: how many CANDIDATES went. BAD; NOT: it has not that WORD, or that alone.";
    edge(said, "settle 0 5 ! BAD", "text '5:1,n:2,7:3,s:4;9'", "settle -1 5 ! BAD", "settle 2 5 ! BAD", "settle MIN 5 ! BAD", "settle MAX 5 ! BAD", "settle 0 -1 ! BAD", "settle 0 32 ! BAD", "settle 0 MIN ! BAD", "settle 0 MAX ! BAD",
        "settle 0 6 ! NOT", "settle 0 9 ! NOT", "settle 1 9 ! NOT", "settle 1 5 ! NOT", "settle 0 31 = 3", "slot 0 -1 0 ! 1", "slot 0 0 0 ! 31", "slot 0 0 1 ! 4", "settle 0 31 ! NOT", "settle 0 5 ! NOT", "slot 1 0 0 ! 9");
    edge(said, "text '5:1,n:2,7:3,s:4'", "settle 0 0 = 3", "slot 0 0 0 ! 0", "slot 0 0 1 ! 2");
    edge(said, "text '5:1,n:2'", "settle 0 5 = 1", "slot 0 0 0 ! 5", "slot 0 0 1 ! 1", "also 0 0 7 = 2", "slot 0 1 1 ! 7", "settle 0 0 = 1", "slot 0 0 1 ! 7");
    edge("a SLOT has one CANDIDATE alone, of those that it had", "text '5,6,7;5,6,7'", "settle 1 6 = 2", "slot 0 -1 0 ! 3", "slot 1 -1 0 ! 1", "slot 1 0 0 ! 6");
  }

  // ---- 11 check, 12 slack

  private static void checking() {
    edge("CHECKED: which it was. BAD; NOT: it is so.", "check -1 ! BAD", "check 5 ! BAD", "check MIN ! BAD", "check MAX ! BAD", "check 0 ! NOT", "check 1 = 0", "check 1 ! NOT", "check 2 = 1", "check 2 ! NOT", "check 3 = 2", "check 3 ! NOT",
        "check 4 = 3", "check 4 ! NOT", "check 5 ! BAD", "check 0 = 4", "check 0 ! NOT", "check 4 = 0", "count 1 ! 4", "count 10 ! 6");
    edge("CHECKED: by another KIND.", "text '5;s;5'", "best 0 ! 5", "check 2 = 0", "best 0 ! NONE", "check 1 = 2", "best 0 ! 5", "undo", "best 0 ! NONE", "undo", "best 0 ! 5");
  }

  private static void slackening() {
    edge("SLACK: what it was. BAD; NOT: it is so.", "slack -1 ! BAD", "slack 21 ! BAD", "slack MIN ! BAD", "slack MAX ! BAD", "slack 0 ! NOT", "slack 1 = 0", "slack 1 ! NOT", "slack 20 = 1", "slack 20 ! NOT", "slack 21 ! BAD", "slack 19 = 20",
        "slack 0 = 19", "slack 0 ! NOT", "count 2 ! 0", "count 10 ! 4");
  }

  // ---- 13 storm

  private static final BigInteger BITS = BigInteger.ONE.shiftLeft(31), TIMES = BigInteger.valueOf(1103515245), MORE = BigInteger.valueOf(12345);

  private static long turned(long draw) {
    return BigInteger.valueOf(draw).multiply(TIMES).add(MORE).mod(BITS).longValue();
  }

  /** THE DRAW that becomes this one by a turn. */
  private static long ahead(long draw) {
    return BigInteger.valueOf(draw).subtract(MORE).multiply(TIMES.modInverse(BITS)).mod(BITS).longValue();
  }

  private static String seedForX(long x) {
    return "seed " + ahead(x * 65536 + 4711);
  }

  private static void turnsOfAStorm() {
    String said = "A STORM of n turns (1 .. 40; each may be UNDONE, one that changes nothing, too)";
    edge(said, "text '5'", "storm 0 ! BAD", "storm -1 ! BAD", "storm 41 ! BAD", "storm MIN ! BAD", "storm MAX ! BAD", "storm 1", "count 10 ! 1", "storm 7", "count 10 ! 8", "storm 40", "count 10 ! 8");
    edge(said, "storm 1 = 0", "count 10 ! 1", "storm 2 = 0", "count 10 ! 3", "undo = 2", "undo = 1", "undo = 0", "undo ! NONE", "seed 1 = 1");
    edge(said, "text '5,6,7,8'", "storm 3 = 4", "count 10 ! 3", "undo = 2");
    edge(said, "text 'n'", "seed 0", "storm 1 = 1", "count 10 ! 1", "undo = 0", "undo ! NONE", "seed 5 = 0");
    for (int n : new int[] {1, 2, 7, 8, 9, 39, 40}) {
      long draw = 1;
      long[] known = new long[n + 1];
      for (int i = 0; i <= n; i++, draw = turned(draw)) known[i] = draw;
      of(said);
      HeardNumbers x = new HeardNumbers();
      is("storm(" + n + ")", x.storm(n), 0);
      is("seed() behind storm(" + n + ")", x.seed(0), known[n]);
      for (int back = 1; back <= Math.min(n, 8); back++) {
        is("undo()", x.undo(), Math.min(n, 8) - back);
        is("seed() behind " + back + " undone of " + n, x.seed(3), known[n - back]);
      }
      is("undo() behind all of " + n, x.undo(), -4);
    }
    edge("CANDIDATES of all SLOTS then.", "text '5,6;7;8,9,10'", seedForX(0), "storm 1 = 7", seedForX(0), "storm 1 = 7", seedForX(1), "storm 1 = 8", "lose 0", "storm 40 = 8", "lose 0", "lose 0", "storm 40 = 0");
  }

  private static void theDraw() {
    String said = "THE DRAW is a number of 31 bits (1 at first); for each turn it becomes the lowest 31 bits of itself times 1103515245 and 12345 more";
    edge(said, "seed 1 = 1", "storm 1 = 0", "seed 0 = 1103527590", "storm 1 = 0", "seed MAX = 12345", "storm 1 = 0", "seed MAX = 1043980748", "seed 1073741824 = MAX", "storm 1 = 0", "seed 0 = " + turned(1073741824));
    of(said);
    HeardNumbers x = new HeardNumbers();
    long draw = 1;
    for (int i = 0; i < 200; i++, draw = turned(draw)) {
      is("seed behind " + i + " turns", x.seed((int) draw), draw);
      x.storm(1);
    }
  }

  private static void whereAStormGoes() {
    edge("x is it by 65536 (cut)", "text '5;6'", "seed " + ahead(65535), "storm 1 = 3", "slot 0 1 0 ! 0", "slot 1 -1 0 ! 1", "seed " + ahead(65536), "storm 1 = 4", "slot 1 1 0 ! 0", "undo", "undo",
        "seed " + ahead(131071), "storm 1 = 3", "slot 1 1 0 ! 0", "undo", "seed " + ahead(131072), "storm 1 = 3", "slot 0 1 0 ! 0", "undo", "seed " + ahead(0), "storm 1 = 3", "slot 0 1 0 ! 0");
    edge("if there are SLOTS", seedForX(5), "storm 1 = 0", "count 0 ! 0", "seed 1 = " + (5 * 65536 + 4711));
    for (int size = 1; size <= 8; size++) {
      for (int x : new int[] {0, size - 1, size, 2 * size - 1, 32767, 32760}) {
        of("the SLOT that x is, left over by how many there are");
        HeardNumbers h = after(times(size, "hear 1 0"), seedForX(x));
        int word = x / 8 % 32;
        boolean more = word != 1;
        is("storm(1) of x " + x + " in " + size, h.storm(1), more ? size + 1 : size);
        for (int i = 0; i < size; i++) is("slot(" + i + ", -1, 0) of x " + x + " in " + size, h.slot(i, -1, 0), more && i == x % size ? 2 : 1);
      }
    }
    for (int x : new int[] {0, 7, 8, 15, 16, 247, 248, 255, 256, 264, 511, 2559, 2560, 2567, 2568, 5119, 5120, 32511, 32512, 32767}) {
      of("has ALSO the WORD that x by 8 is, left over by 32, at COST x by 256 left over by 10");
      HeardNumbers h = after("text '1,2'", seedForX(x));
      int word = x / 8 % 32;
      boolean more = word != 1 && word != 2;
      is("storm(1) of x " + x, h.storm(1), more ? 3 : 2);
      if (more) is("slot(0, 2, 0) of x " + x, h.slot(0, 2, 0), word);
      if (more) is("slot(0, 2, 1) of x " + x, h.slot(0, 2, 1), x / 256 % 10);
    }
    String said = "if it has fewer than 4, and not that";
    edge(said, "text '1,2,3'", seedForX(255), "storm 1 = 4", "slot 0 3 0 ! 31", "slot 0 3 1 ! 0", seedForX(0), "storm 1 = 4", "slot 0 3 0 ! 31", "slot 0 0 0 ! 1");
    edge(said, "text '1,s:5,3'", seedForX(255), "storm 1 = 3", "slot 0 1 1 ! 5", "slot 0 3 0 ! NONE", "count 10 ! 1");
    edge(said, "text '1;2,3,4,5'", seedForX(1), "storm 1 = 5", "slot 0 -1 0 ! 1", "slot 1 -1 0 ! 4");
  }

  // ---- 14 undo, 15 seed

  private static void undoing() {
    String state = SHEETS + "text '5:1,6:2;s;7,8:3'\nseed 55\ncheck 2\nimage\nslack 3\ntype 54\n";
    String said = "the latest of what is HEARD, ALSO, LOST, SETTLED, CHECKED, of a SLACK, a turn of a STORM, is as it had not been";
    for (String done : new String[] {"hear 9 9", "also 0 7 4", "also 2 31 9", "lose 0", "lose 1", "lose 2", "settle 0 6", "settle 0 5", "settle 2 8", "check 0", "check 4", "slack 0", "slack 20", "storm 1"}) {
      same(said, state, state + done + "\nundo");
    }
    same(said, state + "storm 3", state + "storm 4\nundo");
    same(said, state + "hear 1 1\nlose 0", state + "hear 1 1\nlose 0\nsettle 1 8\nundo");
    said = "SLOTS, CHECK, SLACK, THE DRAW are as ahead of it, whatever was told since";
    same(said, state + "seed 99", state + "seed 99\nhear 3 1\nseed 98\nundo");
    same(said, state, state + "check 1\nseed 98\nundo");
    same(said, state, state + "slack 9\nseed 98\nundo");
    same(said, state + "sheet 1 0 2\nitem 1 0 0 3\ntype 53\nimage", state + "image\nhear 9 9\nsheet 1 0 2\nitem 1 0 0 3\ntype 53\nundo\nimage");
    edge(said, state, "hear 3 1", "image", "undo", "count 0 ! 3", "restore = 1", "count 0 ! 4");
    said = "WORDS told, a NUMBER said leave nothing to be UNDONE.";
    String untyped = state.replace("type 54\n", "");
    for (String told : new String[] {"text '5'", "text ''", "text 'n;n;n;n;n;n;n;n'", "say 1", "say 999990"}) {
      edge(said, untyped, "count 10 ! 2", told, "count 10 ! 0", "undo ! NONE", "slack 9 = 3", "count 10 ! 1", "undo = 0", "count 2 ! 3", "undo ! NONE");
      edge(said, times(12, "storm 1"), "count 10 ! 8", told, "count 10 ! 0", "undo ! NONE", times(9, "storm 1"), "count 10 ! 8");
    }
    edge(said, state, "words = 1", "undo ! NONE");
    edge(said, state, "hear 1 1", "say 0 ! BAD", "count 10 ! 3", "say 777777 ! FULL", "count 10 ! 3", "words = 1", "text '0' ! -20");
  }

  private static void eightAreKnown() {
    String said = "(8 are known, older ones lost)";
    for (int n = 0; n <= 20; n++) {
      of(said);
      HeardNumbers x = new HeardNumbers();
      for (int i = 1; i <= n; i++) x.slack(i);
      int known = Math.min(n, 8);
      is("count(10) behind " + n, x.count(10), known);
      for (int back = 1; back <= known; back++) {
        is("undo() behind " + n, x.undo(), known - back);
        is("count(2) behind " + back + " undone of " + n, x.count(2), n - back);
      }
      is("undo() behind all of " + n, x.undo(), -4);
      is("count(2) then", x.count(2), n - known);
    }
    edge(said, times(8, "hear 5 0"), "count 10 ! 8", "undo = 7", "count 0 ! 7", "lose 0 = 6", "count 10 ! 8", "slack 1", "count 10 ! 8", "undo = 7", "undo = 6", "count 0 ! 7", "undo = 5", "count 0 ! 6", "undo = 4", "undo = 3", "undo = 2", "undo = 1", "undo = 0", "count 0 ! 1", "undo ! NONE");
    edge("UNDONE: how many more may be. NONE: none is known.", "undo ! NONE", "hear 5 0", "undo = 0", "undo ! NONE", "hear 5 0", "also 0 6 0", "undo = 1", "undo = 0", "undo ! NONE", "count 0 ! 0");
    edge("UNDONE: how many more may be. NONE: none is known.", "seed 5", "image", "restore", "sheet 0 0 1", "item 0 0 0 1", "drop 0", "type 53", "undo ! NONE");
    edge("UNDONE: how many more may be. NONE: none is known.", "hear 32 0 ! BAD", "also 0 5 0 ! BAD", "check 0 ! NOT", "slack 0 ! NOT", "storm 0 ! BAD", "undo ! NONE", "text '5,6,7,8'", "also 0 5 0 ! NOT", "also 0 9 0 ! FULL", "settle 0 9 ! NOT", "undo ! NONE");
    // round the ring more than once
    edge(said, "text '5'", times(30, "slack 1\nslack 0\nundo\nundo"), "count 10 ! 0", times(5, "slack 1\nslack 0\nslack 2\nundo\nslack 3\nslack 0"), "count 10 ! 8", "undo = 7", "count 2 ! 3", "undo = 6", "count 2 ! 0", "undo = 5", "count 2 ! 1", "undo = 4", "count 2 ! 0",
        "undo = 3", "count 2 ! 3");
  }

  private static void seeding() {
    String said = "THE DRAW becomes v: what it was. BAD: below 0.";
    edge(said, "seed MIN ! BAD", "seed -1 ! BAD", "seed 0 = 1", "seed -1 ! BAD", "seed MAX = 0", "seed 1 = MAX", "seed 1 = 1", "count 10 ! 0");
    same(said, SHEETS + "text '5,6;7'\nslack 3\nseed 7\nstorm 5", SHEETS + "text '5,6;7'\nslack 3\nseed 9\nseed 0\nseed 7\nstorm 5");
  }

  public static void main(String[] args) {
    hearing();
    another();
    losing();
    settling();
    checking();
    slackening();
    turnsOfAStorm();
    theDraw();
    whereAStormGoes();
    undoing();
    eightAreKnown();
    seeding();
    end();
  }
}
