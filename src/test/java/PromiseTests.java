/** Each promise of the document by itself: ordinary inputs, the edges that it names, wrong inputs. */
public final class PromiseTests {
  private static final int BAD = -1, NOT = -2, FULL = -3, NONE = -4, NULL = -11, CAST = -12, INDEX = -13, SIZE = -14;
  private static final int LOWEST = Integer.MIN_VALUE, HIGHEST = Integer.MAX_VALUE;
  private static int wrong = 0, asked = 0, promise = 0;

  private static void is(String call, long got, long want) {
    asked++;
    if (got != want) {
      wrong++;
      System.out.println("promise " + promise + ": " + call + " answered " + got + ", due is " + want);
    }
  }

  private static int tell(HeardNumbers x, String text) {
    for (char c : text.toCharArray()) x.type(c);
    return x.words();
  }

  private static HeardNumbers heard(String text) {
    HeardNumbers x = new HeardNumbers();
    if (tell(x, text) < 0) throw new IllegalStateException(text);
    return x;
  }

  private static HeardNumbers heard(String text, int kind) {
    HeardNumbers x = heard(text);
    x.check(kind);
    return x;
  }

  /** What BEST tells, as a text: "21 5"; "" if there is none. */
  private static String told(HeardNumbers x) {
    StringBuilder s = new StringBuilder();
    for (int k = 0; k < x.best(-2); k++) s.append(k == 0 ? "" : " ").append(x.best(k));
    return s.toString();
  }

  private static void tells(String text, int kind, String want) {
    asked++;
    String got = told(heard(text, kind));
    if (!got.equals(want)) {
      wrong++;
      System.out.println("promise " + promise + ": " + text + " by check " + kind + " tells '" + got + "', due is '" + want + "'");
    }
  }

  private static void fault(String text, int place) {
    HeardNumbers x = heard("7;8");
    is("words() of '" + text + "'", tell(x, text), -20 - place);
    is("count(0) behind the fault of '" + text + "'", x.count(0), 2);
    is("words() of the tape behind the fault of '" + text + "'", x.words(), 0);
  }

  private static void newObject() {
    promise = 1;
    HeardNumbers x = new HeardNumbers();
    for (int what : new int[] {0, 1, 2, 3, 4, 5, 10}) is("count(" + what + ")", x.count(what), 0);
    for (int what : new int[] {6, 7, 8, 9}) is("count(" + what + ")", x.count(what), NONE);
    is("undo()", x.undo(), NONE);
    is("restore()", x.restore(), NONE);
    is("drop(3)", x.drop(3), NULL);
    is("seed(1)", x.seed(1), 1);
    is("type(32)", x.type(32), 1);
  }

  private static void typeLetters() {
    promise = 2;
    HeardNumbers x = new HeardNumbers();
    for (int letter : new int[] {31, 127, -1, 0, LOWEST, HIGHEST, 65536 + 53}) is("type(" + letter + ")", x.type(letter), BAD);
    is("type(126)", x.type(126), 1);
    for (int i = 2; i <= 120; i++) is("type(32)", x.type(32), i);
    is("type(32) on a full tape", x.type(32), FULL);
    is("type(31) on a full tape", x.type(31), BAD);
    is("words()", x.words(), -20);
    is("type(53)", x.type(53), 1);
    is("words()", x.words(), 1);
  }

  private static void wordsAsText() {
    promise = 3;
    HeardNumbers x = new HeardNumbers();
    is("words()", tell(x, ""), 0);
    is("words()", tell(x, "   "), 0);
    is("words()", tell(x, " 1 9 "), -23);
    is("words()", tell(x, " 19 : 9 , 20 ; h:0,t:1 , a:2,s ; n "), 3);
    int[][] due = {{19, 9, 20, 0}, {28, 0, 29, 1, 30, 2, 31, 0}, {0, 0}};
    for (int i = 0; i < 3; i++) {
      is("slot(" + i + ", -1, 0)", x.slot(i, -1, 0), due[i].length / 2);
      for (int k = 0; k < due[i].length; k++) is("slot(" + i + ", " + k / 2 + ", " + k % 2 + ")", x.slot(i, k / 2, k % 2), due[i][k]);
    }
    is("words()", tell(x, "20;30;40;50;60;70;80;90"), 8);
    for (int i = 0; i < 8; i++) is("slot(" + i + ", 0, 0)", x.slot(i, 0, 0), 20 + i);
    is("words()", tell(x, "1,2,3,4;5,6,7,8;9,10,11,12;1,2,3,4;1,2,3,4;1,2,3,4;1,2,3,4;1:1,2:2,3:3,4:4"), 8);
    fault("0", 0);
    fault("00", 0);
    fault("21", 0);
    fault("99", 0);
    fault("100", 2);
    fault("215", 0);
    fault("5;205", 4);
    fault("1 2", 2);
    fault("5:", 2);
    fault("5:  ", 4);
    fault("5:x", 2);
    fault("5: ;", 3);
    fault("5:12", 3);
    fault("5:1 2", 4);
    fault("5:1:2", 3);
    fault("5,5", 2);
    fault("5, 05", 3);
    fault("5, 5 x", 3);
    fault("5,6:1,20,5:3", 9);
    fault("5;", 2);
    fault(" 5 ; ", 5);
    fault("5,", 2);
    fault(";5", 0);
    fault("  ,5", 2);
    fault("5;;6", 2);
    fault("5,;6", 2);
    fault("hh", 1);
    fault("H", 0);
    fault("h5", 1);
    fault("5h", 1);
    fault("-5", 0);
    fault("1,2,3,4,5", 7);
    fault("1,2,3,4 , x", 8);
    fault("n;n;n;n;n;n;n;n;n", 15);
    fault("n;n;n;n;n;n;n;n ;", 16);
    fault("n;x;0", 2);
    wordsInPlaceOfSlots();
  }

  private static void wordsInPlaceOfSlots() {
    HeardNumbers x = heard("5");
    x.sheet(0, 2, 3);
    x.seed(77);
    x.check(2);
    x.slack(3);
    x.image();
    is("words()", tell(x, "0"), -20);
    is("count(10) behind a fault", x.count(10), 2);
    is("words()", tell(x, "6;n"), 2);
    is("count(10)", x.count(10), 0);
    is("undo()", x.undo(), NONE);
    is("count(1)", x.count(1), 2);
    is("count(2)", x.count(2), 3);
    is("seed(77)", x.seed(77), 77);
    is("drop(0)", x.drop(0), 3);
    is("restore()", x.restore(), 1);
    is("best(0)", x.best(0), 5);
  }

  private static void sayNumbers() {
    promise = 4;
    HeardNumbers x = new HeardNumbers();
    for (int v : new int[] {0, -1, 1000000, LOWEST, HIGHEST}) is("say(" + v + ")", x.say(v), BAD);
    int[][] due = {{1, 1}, {19, 19}, {20, 20}, {27, 20, 7}, {99, 27, 9}, {100, 1, 28}, {119, 1, 28, 19}, {999, 9, 28, 27, 9},
        {1000, 1, 29}, {1001, 1, 29, 1}, {20000, 20, 29}, {100100, 1, 28, 29, 1, 28}, {999019, 9, 28, 27, 9, 29, 19},
        {121121, 1, 28, 20, 1, 29, 1, 28, 20, 1}, {121120, 1, 28, 20, 1, 29, 1, 28, 20}};
    for (int[] d : due) {
      boolean fits = d.length - 1 <= 8;
      is("say(" + d[0] + ")", x.say(d[0]), fits ? d.length - 1 : FULL);
      for (int i = 0; fits && i < d.length - 1; i++) {
        is("slot(" + i + ", 0, 0) of " + d[0], x.slot(i, 0, 0), d[i + 1]);
        is("slot(" + i + ", 0, 1) of " + d[0], x.slot(i, 0, 1), 0);
        is("slot(" + i + ", -1, 0) of " + d[0], x.slot(i, -1, 0), 1);
      }
      if (fits) is("best(0) of " + d[0], x.best(0), d[0]);
    }
    x.say(5);
    x.storm(3);
    is("say(777777)", x.say(777777), FULL);
    is("say(999999)", x.say(999999), FULL);
    is("count(10)", x.count(10), 3);
    is("say(0)", x.say(0), BAD);
    is("count(10)", x.count(10), 3);
    is("say(6)", x.say(6), 1);
    is("count(10)", x.count(10), 0);
  }

  private static void slotTells() {
    promise = 5;
    HeardNumbers x = heard("5,6:1;s");
    is("slot(0, -1, 0)", x.slot(0, -1, 0), 2);
    is("slot(0, -1, 1)", x.slot(0, -1, 1), 2);
    is("slot(1, -1, 0)", x.slot(1, -1, 0), 1);
    is("slot(0, 1, 0)", x.slot(0, 1, 0), 6);
    is("slot(0, 1, 1)", x.slot(0, 1, 1), 1);
    is("slot(1, 0, 0)", x.slot(1, 0, 0), 31);
    is("slot(0, 2, 0)", x.slot(0, 2, 0), NONE);
    is("slot(1, 1, 1)", x.slot(1, 1, 1), NONE);
    is("slot(1, HIGHEST, 1)", x.slot(1, HIGHEST, 1), NONE);
    is("slot(0, -2, 0)", x.slot(0, -2, 0), BAD);
    is("slot(0, LOWEST, 0)", x.slot(0, LOWEST, 0), BAD);
    is("slot(2, 0, 0)", x.slot(2, 0, 0), BAD);
    is("slot(-1, 0, 0)", x.slot(-1, 0, 0), BAD);
    is("slot(0, 0, 2)", x.slot(0, 0, 2), BAD);
    is("slot(0, 9, -1)", x.slot(0, 9, -1), BAD);
  }

  private static void numbersAsSaid() {
    promise = 6;
    tells("5", 0, "5");
    tells("20", 0, "20");
    tells("20;5", 0, "25");
    tells("20;10", 0, "");
    tells("5;20", 0, "");
    tells("5;5", 0, "");
    tells("19;1", 0, "");
    tells("h", 0, "");
    tells("10;h", 0, "");
    tells("20;5;h", 0, "");
    tells("5;h", 0, "500");
    tells("5;h;h", 0, "");
    tells("5;h;a", 0, "");
    tells("5;h;a;20;1", 0, "521");
    tells("5;h;20;1", 0, "521");
    tells("5;h;1;h", 0, "");
    tells("5;h;a;1;h", 0, "");
    tells("5;a;5", 0, "");
    tells("20;a;5", 0, "");
    tells("t", 0, "");
    tells("5;t", 0, "5000");
    tells("5;t;t", 0, "");
    tells("5;h;t;7;h", 0, "500700");
    tells("5;h;a;9;t;a;9", 0, "509009");
    tells("5;t;a", 0, "");
    tells("5;t;a;5;h", 0, "");
    tells("5;t;5;h;a;5", 0, "5505");
    tells("5;t;5;t", 0, "");
    tells("5;t;a;20;9", 0, "5029");
    tells("9;h;90;9;t;9;h;90", 0, "999990");
    tells("n", 0, "");
    tells("n;5;n;h;n", 0, "500");
    tells("s", 0, "");
    tells("5;s", 0, "");
    tells("s;5", 0, "");
    tells("5;s;s;6", 0, "");
    tells("5;s;n;s;6", 0, "");
    tells("5;s;6;s;7;n;s;8", 0, "5 6 7 8");
    tells("20;n;s;n;1", 0, "20 1");
  }

  private static void checksOfKinds() {
    tells("5", 1, "");
    tells("5;s;5", 1, "5 5");
    tells("5;s;6;s;11", 1, "5 6 11");
    tells("5;s;6;s;12", 1, "");
    tells("11;s;5;s;6", 1, "");
    tells("1;h;s;2;h", 1, "");
    tells("5", 3, "");
    tells("5;s;1;h;5", 3, "5 105");
    tells("1;h;s;2;h", 3, "100 200");
    tells("90;s;20;s;10", 3, "90 20 10");
    tells("5;s;6;s;12", 3, "");
    tells("5", 2, "5");
    tells("5;s;6", 2, "5 6");
    tells("5;s;5", 2, "");
    tells("6;s;5", 2, "");
    tells("5;s;6;s;8", 2, "5 6 8");
    tells("5;s;8;s;6", 2, "");
    tells("5", 4, "5");
    tells("5;s;9", 4, "5 9");
    tells("5;s;5", 4, "");
    tells("9;s;5;s;1", 4, "");
    tells("5;s;6;s;8", 4, "");
    tells("5;s;6;s;7;s;8", 4, "5 6 7 8");
    tells("5;s;6;s;7;s;9", 4, "");
  }

  private static void counts() {
    promise = 6;
    HeardNumbers x = heard("20,30:2;1,7:1,n:3;s;5");
    for (int what : new int[] {-1, 11, LOWEST, HIGHEST}) is("count(" + what + ")", x.count(what), BAD);
    long[] free = {4, 0, 0, 6, 6, 1, NONE, 0, 1, 0, 0};
    for (int what = 0; what < 11; what++) is("count(" + what + ")", x.count(what), free[what]);
    x.slack(3);
    // costs 0 1 3 / 2 3 5: five are counted; slot 0 has 3 of one word, slot 1 has 2
    long[] slack = {4, 0, 3, 6, 6, 5, 1, 2, 1, 0, 1};
    for (int what = 0; what < 11; what++) is("count(" + what + ") by slack 3", x.count(what), slack[what]);
    x.check(2);
    long[] rising = {4, 2, 3, 6, 0, 0, NONE, NONE, NONE, NONE, 2};
    for (int what = 0; what < 11; what++) is("count(" + what + ") by rising", x.count(what), rising[what]);
  }

  private static void spoiltOnes() {
    // best is 5 5; 5 6 and 6 5 are said, but no total; 5 n 5, 5 s h, 5 s n are not said
    is("count(9)", heard("5,6;s,n:1;5,6:1,h:1,n:2", 1).count(9), 2);
    // best is 5 6, the dearer word; 6 6 and 5 5 do not rise
    is("count(9) of rising ones", heard("5,6;s,n:1;n;5,6:1", 2).count(9), 2);
    is("count(9), both changed at once", heard("5,6:3;s;5,6:3,n:1;n,7:4", 1).count(9), 2);
    is("count(9), free", heard("5,6;s;5,6").count(9), 0);
    is("count(9), none", heard("5;s;6", 1).count(9), NONE);
  }

  private static void nextOnes() {
    is("count(8), one reading", heard("5").count(8), NONE);
    is("count(8), the same number", heard("5,n:1;n,5:1").count(8), NONE);
    is("count(8)", heard("5,6:4,7:2").count(8), 2);
    is("count(8), as dear", heard("5:3,6:3").count(8), 3);
    is("count(8), more numbers", heard("20;5,s:7,n:8;n:1,1:1").count(8), 8);
    is("count(8), sound ones alone", heard("5,6:4,7:2;s;5,6:1,7:9", 1).count(8), 5);
  }

  private static void looksAndQuestions() {
    HeardNumbers x = heard("5,n:1;n,5:1");
    x.slack(2);
    is("count(5)", x.count(5), 2);
    is("count(6)", x.count(6), 0);
    is("count(7), the same numbers", x.count(7), 0);
    x = heard("5");
    is("count(6), one reading", x.count(6), NONE);
    is("count(7), one reading", x.count(7), 0);
    x = heard("n,5;5,n,6");
    // n 5, n 6, 5 n: slot 0 has 2 of one word, slot 1 has 1
    is("count(6)", x.count(6), 1);
    is("count(7)", x.count(7), 1);
    x = heard("1,2,3,4;s;1,2,3,4;s;1,2,3,4");
    is("count(5)", x.count(5), 64);
    is("count(6)", x.count(6), 0);
    is("count(7), above 60", x.count(7), NONE);
    x.settle(2, 3);
    is("count(6)", x.count(6), 0);
    is("count(7)", x.count(7), 2);
    x = heard("1,2,3;s;1,2,3,4;s;1,2,3,4");
    is("count(5)", x.count(5), 48);
    is("count(6), the first of those that part better", x.count(6), 2);
    is("count(7)", x.count(7), 3);
    x = heard("20,30,40,50;1,2,3;s;20,n;1,2,n");
    // behind the stop: 21, 22, 20, 1, 2; asked for are slots 0, 1, 4, 3
    is("count(5)", x.count(5), 60);
    is("count(6)", x.count(6), 0);
    is("count(7) of 60", x.count(7), 4);
  }

  private static void manyCounted() {
    HeardNumbers x = heard("20,30,40,50;1,2,3;s;20,n;1,2,n");
    is("counted(59, 1)", x.counted(59, 1), 2);
    is("counted(55, 1)", x.counted(55, 1), 21);
    is("counted(60, 0)", x.counted(60, 0), NONE);
    x = heard("1,2,3,4;h;20,30,40,50;s;5,6,7,8:2;n,1");
    is("count(5)", x.count(5), 48);
    x.slack(2);
    is("count(5)", x.count(5), 64);
    is("counted(60, 1)", x.counted(60, 1), 5);
    is("counted(62, 0)", x.counted(62, 0), 0);
    is("counted(63, 0)", x.counted(63, 0), 2);
    is("counted(63, 1)", x.counted(63, 1), 8);
    is("counted(64, 0)", x.counted(64, 0), NONE);
  }

  private static void hearWords() {
    promise = 7;
    HeardNumbers x = new HeardNumbers();
    int[][] bad = {{32, 0}, {-1, 0}, {0, 10}, {0, -1}, {LOWEST, 0}, {0, HIGHEST}};
    for (int[] b : bad) is("hear(" + b[0] + ", " + b[1] + ")", x.hear(b[0], b[1]), BAD);
    is("count(10)", x.count(10), 0);
    for (int i = 1; i <= 8; i++) is("hear(" + (i + 23) + ", " + i + ")", x.hear(i + 23, i), i);
    is("hear(0, 0)", x.hear(0, 0), FULL);
    for (int[] b : bad) is("hear(" + b[0] + ", " + b[1] + ") when full", x.hear(b[0], b[1]), BAD);
    for (int i = 0; i < 8; i++) {
      is("slot(" + i + ", -1, 0)", x.slot(i, -1, 0), 1);
      is("slot(" + i + ", 0, 0)", x.slot(i, 0, 0), i + 24);
      is("slot(" + i + ", 0, 1)", x.slot(i, 0, 1), i + 1);
    }
  }

  private static void alsoWords() {
    promise = 8;
    HeardNumbers x = heard("5;6");
    is("also(1, 0, 9)", x.also(1, 0, 9), 2);
    is("also(1, 31, 0)", x.also(1, 31, 0), 3);
    is("also(1, 31, 5)", x.also(1, 31, 5), NOT);
    is("also(1, 30, 5)", x.also(1, 30, 5), 4);
    is("also(1, 30, 5)", x.also(1, 30, 5), NOT);
    is("also(1, 29, 5)", x.also(1, 29, 5), FULL);
    int[][] bad = {{2, 1, 0}, {-1, 1, 0}, {0, 32, 0}, {0, -1, 0}, {0, 1, 10}, {0, 5, -1}, {1, 29, 10}};
    for (int[] b : bad) is("also(" + b[0] + ", " + b[1] + ", " + b[2] + ")", x.also(b[0], b[1], b[2]), BAD);
    is("slot(1, 1, 0)", x.slot(1, 1, 0), 0);
    is("slot(1, 1, 1)", x.slot(1, 1, 1), 9);
    is("slot(1, 3, 0)", x.slot(1, 3, 0), 30);
    is("count(10)", x.count(10), 3);
  }

  private static void loseSlots() {
    promise = 9;
    HeardNumbers x = heard("5;6:1,7:2;8:3");
    for (int b : new int[] {-1, 3, LOWEST, HIGHEST}) is("lose(" + b + ")", x.lose(b), BAD);
    is("lose(0)", x.lose(0), 2);
    is("slot(0, -1, 0)", x.slot(0, -1, 0), 2);
    is("slot(0, 1, 0)", x.slot(0, 1, 0), 7);
    is("slot(0, 1, 1)", x.slot(0, 1, 1), 2);
    is("slot(1, 0, 0)", x.slot(1, 0, 0), 8);
    is("lose(2)", x.lose(2), BAD);
    is("lose(1)", x.lose(1), 1);
    is("lose(0)", x.lose(0), 0);
    is("lose(0)", x.lose(0), BAD);
    x = heard("1;2;3;4;5;6;7;8");
    is("lose(7)", x.lose(7), 7);
    is("hear(9, 0)", x.hear(9, 0), 8);
    is("slot(7, 0, 0)", x.slot(7, 0, 0), 9);
  }

  private static void settleWords() {
    promise = 10;
    HeardNumbers x = heard("5:1,6:2,7:3,8:4;9");
    int[][] bad = {{2, 0}, {-1, 0}, {0, 32}, {0, -1}, {LOWEST, 5}, {0, HIGHEST}};
    for (int[] b : bad) is("settle(" + b[0] + ", " + b[1] + ")", x.settle(b[0], b[1]), BAD);
    is("settle(0, 9)", x.settle(0, 9), NOT);
    is("settle(1, 9)", x.settle(1, 9), NOT);
    is("settle(0, 7)", x.settle(0, 7), 3);
    is("slot(0, -1, 0)", x.slot(0, -1, 0), 1);
    is("slot(0, 0, 0)", x.slot(0, 0, 0), 7);
    is("slot(0, 0, 1)", x.slot(0, 0, 1), 3);
    is("settle(0, 7)", x.settle(0, 7), NOT);
    is("also(0, 5, 0)", x.also(0, 5, 0), 2);
    is("count(10)", x.count(10), 2);
  }

  private static void checkKinds() {
    promise = 11;
    checksOfKinds();
    HeardNumbers x = new HeardNumbers();
    for (int b : new int[] {-1, 5, LOWEST, HIGHEST}) is("check(" + b + ")", x.check(b), BAD);
    is("check(0)", x.check(0), NOT);
    is("check(4)", x.check(4), 0);
    is("check(4)", x.check(4), NOT);
    is("check(1)", x.check(1), 4);
    is("count(1)", x.count(1), 1);
    is("count(10)", x.count(10), 2);
  }

  private static void slackNumbers() {
    promise = 12;
    HeardNumbers x = heard("1:0,2:3,3:4,4:9");
    for (int b : new int[] {-1, 21, LOWEST, HIGHEST}) is("slack(" + b + ")", x.slack(b), BAD);
    is("slack(0)", x.slack(0), NOT);
    is("count(5)", x.count(5), 1);
    is("slack(3)", x.slack(3), 0);
    is("count(5)", x.count(5), 2);
    is("slack(4)", x.slack(4), 3);
    is("count(5)", x.count(5), 3);
    is("slack(20)", x.slack(20), 4);
    is("slack(20)", x.slack(20), NOT);
    is("count(5)", x.count(5), 4);
    is("count(10)", x.count(10), 3);
  }

  private static void storms() {
    promise = 13;
    HeardNumbers x = new HeardNumbers();
    for (int b : new int[] {0, 41, -1, LOWEST, HIGHEST}) is("storm(" + b + ")", x.storm(b), BAD);
    is("storm(1) with no slots", x.storm(1), 0);
    // 1 * 1103515245 + 12345 = 1103527590
    is("seed(1)", x.seed(1), 1103527590);
    tell(x, "5;6;7");
    is("storm(1)", x.storm(1), 4);
    // x = 16838: slot 16838 % 3 = 2, word 2104 % 32 = 24, cost 65 % 10 = 5
    is("slot(2, 1, 0)", x.slot(2, 1, 0), 24);
    is("slot(2, 1, 1)", x.slot(2, 1, 1), 5);
    is("seed(1)", x.seed(1), 1103527590);
    is("storm(1), the same word", x.storm(1), 4);
    is("count(10)", x.count(10), 2);
    is("undo()", x.undo(), 1);
    is("seed(0)", x.seed(0), 1);
    is("storm(40)", x.storm(40), 12);
    is("count(10)", x.count(10), 8);
    x = heard("5,6,7,8");
    is("storm(40), no room", x.storm(40), 4);
    is("slot(0, 3, 0)", x.slot(0, 3, 0), 8);
  }

  private static void undone() {
    promise = 14;
    HeardNumbers x = new HeardNumbers();
    is("undo()", x.undo(), NONE);
    x.hear(5, 1);
    x.also(0, 6, 2);
    x.also(0, 7, 3);
    x.settle(0, 6);
    x.lose(0);
    x.check(3);
    x.slack(4);
    x.storm(1);
    is("count(10)", x.count(10), 8);
    x.seed(99);
    is("undo()", x.undo(), 7);
    is("seed(98)", x.seed(98), 1);
    is("undo() of slack", x.undo(), 6);
    is("count(2)", x.count(2), 0);
    is("seed(97)", x.seed(97), 1);
    is("undo() of check", x.undo(), 5);
    is("count(1)", x.count(1), 0);
    is("undo() of lose", x.undo(), 4);
    is("slot(0, 0, 0)", x.slot(0, 0, 0), 6);
    is("slot(0, -1, 0)", x.slot(0, -1, 0), 1);
    is("undo() of settle", x.undo(), 3);
    is("slot(0, -1, 0)", x.slot(0, -1, 0), 3);
    is("slot(0, 0, 1)", x.slot(0, 0, 1), 1);
    is("slot(0, 2, 0)", x.slot(0, 2, 0), 7);
    is("undo() of also", x.undo(), 2);
    is("slot(0, -1, 0)", x.slot(0, -1, 0), 2);
    is("undo() of also", x.undo(), 1);
    is("best(0)", x.best(0), 5);
    is("undo() of hear", x.undo(), 0);
    is("count(0)", x.count(0), 0);
    is("undo()", x.undo(), NONE);
    for (int i = 1; i <= 11; i++) x.slack(i);
    is("count(10), eight are known", x.count(10), 8);
    for (int i = 7; i >= 0; i--) is("undo()", x.undo(), i);
    is("count(2)", x.count(2), 3);
    is("undo()", x.undo(), NONE);
    x.check(9);
    x.check(0);
    x.slack(3);
    is("count(10), what is refused", x.count(10), 0);
  }

  private static void seeds() {
    promise = 15;
    HeardNumbers x = new HeardNumbers();
    is("seed(-1)", x.seed(-1), BAD);
    is("seed(LOWEST)", x.seed(LOWEST), BAD);
    is("seed(HIGHEST)", x.seed(HIGHEST), 1);
    is("seed(0)", x.seed(0), HIGHEST);
    is("count(10)", x.count(10), 0);
    x.storm(1);
    is("seed(5)", x.seed(5), 12345);
  }

  private static void bests() {
    promise = 16;
    HeardNumbers x = heard("20:2,30:1;1:3,7:3;s;5:1");
    is("best(-1)", x.best(-1), 5);
    is("best(-2)", x.best(-2), 2);
    is("best(0), the first of like ones", x.best(0), 31);
    is("best(1)", x.best(1), 5);
    is("best(2)", x.best(2), NONE);
    is("best(HIGHEST)", x.best(HIGHEST), NONE);
    is("best(-3)", x.best(-3), BAD);
    is("best(LOWEST)", x.best(LOWEST), BAD);
    x.check(1);
    for (int k = -2; k < 3; k++) is("best(" + k + "), none", x.best(k), NONE);
    is("best(-3), none", x.best(-3), BAD);
    numbersAsSaid();
  }

  private static void takenWords() {
    promise = 17;
    HeardNumbers x = heard("20:2,30:1;n:1,7:1,8:0;s;5:1");
    int[] due = {21, 8, 31, 5};
    for (int i = 0; i < 4; i++) is("taken(" + i + ")", x.taken(i), due[i]);
    x.settle(1, 0);
    is("taken(1)", x.taken(1), 0);
    for (int b : new int[] {-1, 4, LOWEST, HIGHEST}) is("taken(" + b + ")", x.taken(b), BAD);
    x.check(1);
    is("taken(0)", x.taken(0), NONE);
    is("taken(4)", x.taken(4), BAD);
  }

  private static void openWords() {
    promise = 18;
    HeardNumbers x = heard("20:2,30:1;n:1,7:1,8:0;s,h;5:1");
    is("open(0)", x.open(0), 1L << 21);
    is("open(2)", x.open(2), 1L << 31);
    x.slack(1);
    is("open(0)", x.open(0), 1L << 20 | 1L << 21);
    is("open(1)", x.open(1), 1L | 1L << 7 | 1L << 8);
    is("open(3)", x.open(3), 1L << 5);
    for (int b : new int[] {-1, 4, LOWEST, HIGHEST}) is("open(" + b + ")", x.open(b), BAD);
    x.check(1);
    is("open(0), none is counted", x.open(0), 0);
  }

  private static void countedOnes() {
    promise = 19;
    HeardNumbers x = heard("20,30:2;1,7:1;s;5,6:3", 0);
    is("counted(0, 0)", x.counted(0, 0), 0);
    is("counted(1, 0)", x.counted(1, 0), NONE);
    x.slack(3);
    int[][] due = {{0, 5}, {3, 6}, {1, 5}, {2, 5}, {3, 5}};
    for (int k = 0; k < 5; k++) {
      is("counted(" + k + ", 0)", x.counted(k, 0), due[k][0]);
      is("counted(" + k + ", 1)", x.counted(k, 1), due[k][1]);
    }
    is("counted(5, 1)", x.counted(5, 1), NONE);
    is("counted(HIGHEST, 1)", x.counted(HIGHEST, 1), NONE);
    int[][] bad = {{-1, 0}, {0, 2}, {0, -1}, {99, 2}, {LOWEST, 0}};
    for (int[] b : bad) is("counted(" + b[0] + ", " + b[1] + ")", x.counted(b[0], b[1]), BAD);
    manyCounted();
  }

  private static void fraction(HeardNumbers x, int v, long above, long below) {
    is("likely(" + v + ", 0)", x.likely(v, 0), above);
    is("likely(" + v + ", 1)", x.likely(v, 1), below);
  }

  private static void likelyOnes() {
    promise = 20;
    // weights: 5 by 10, 6 by 8, 7 by 1
    HeardNumbers x = heard("5,6:2,7:9,t:3");
    fraction(x, 5, 10, 19);
    fraction(x, 6, 8, 19);
    fraction(x, 7, 1, 19);
    fraction(x, 8, 0, 1);
    fraction(x, 0, 0, 1);
    fraction(x, 999999, 0, 1);
    x.settle(0, 7);
    fraction(x, 7, 1, 1);
    x.lose(0);
    fraction(x, 5, NONE, NONE);
    // 5 6 by 800, 5 7 by 500, 6 7 by 400: rising ones alone
    x = heard("5,6:2;s;6:2,7:5", 2);
    fraction(x, 7, 9, 17);
    fraction(x, 6, 8, 17);
    is("likely(-1, 0)", x.likely(-1, 0), BAD);
    is("likely(1000000, 0)", x.likely(1000000, 0), BAD);
    is("likely(0, 2)", x.likely(0, 2), BAD);
    is("likely(0, -1)", x.likely(0, -1), BAD);
    x.check(1);
    fraction(x, 6, 1, 1);
    x.settle(0, 5);
    fraction(x, 6, NONE, NONE);
    is("likely(-1, 0)", x.likely(-1, 0), BAD);
  }

  private static void images() {
    promise = 21;
    HeardNumbers x = heard("5");
    x.check(2);
    x.slack(3);
    x.also(0, 6, 1);
    x.seed(44);
    x.sheet(1, 0, 7);
    x.type('8');
    is("image()", x.image(), 1);
    x.lose(0);
    x.check(1);
    x.slack(9);
    x.seed(45);
    x.sheet(1, 0, 9);
    x.type(';');
    promise = 22;
    for (int round = 0; round < 2; round++) {
      is("restore()", x.restore(), 1);
      is("count(1)", x.count(1), 2);
      is("count(2)", x.count(2), 3);
      is("slot(0, -1, 0)", x.slot(0, -1, 0), 2);
      is("count(10)", x.count(10), 3);
      is("seed(46)", x.seed(46), 44);
      is("undo()", x.undo(), 2);
      is("slot(0, -1, 0)", x.slot(0, -1, 0), 1);
      is("undo()", x.undo(), 1);
      is("count(2)", x.count(2), 0);
      x.storm(9);
    }
    is("the tape is as it was", x.type('9'), 3);
    is("words()", x.words(), 2);
    is("restore() behind words", x.restore(), 1);
    is("best(0)", x.best(0), 5);
    is("drop(1)", x.drop(1), 9);
    is("restore() of a new object", new HeardNumbers().restore(), NONE);
    HeardNumbers y = new HeardNumbers();
    y.image();
    y.hear(5, 0);
    is("restore()", y.restore(), 1);
    is("count(0)", y.count(0), 0);
    is("count(10)", y.count(10), 0);
  }

  private static void fill(HeardNumbers x, int sheet, int lane, long... items) {
    x.sheet(sheet, lane, items.length);
    for (int i = 0; i < items.length; i++) x.item(sheet, lane, i, items[i]);
  }

  private static void meantKinds() {
    promise = 23;
    HeardNumbers x = heard("5:1,6;s;7,11,12:2,5:3");
    fill(x, 0, 3, 9, 6, 7, 5, 5);
    // free, rising, steady: 6 7; total: 5 5 costs 4; ending: the same
    is("meant(0, 3, 1, 2)", x.meant(0, 3, 1, 2), 1 | 4 | 16);
    is("meant(0, 3, 3, 2)", x.meant(0, 3, 3, 2), 2 | 8);
    is("meant(0, 3, 0, 2)", x.meant(0, 3, 0, 2), 0);
    is("meant(0, 3, 1, 1)", x.meant(0, 3, 1, 1), 0);
    is("meant(0, 3, 1, 3)", x.meant(0, 3, 1, 3), 0);
    is("meant(0, 3, 0, 5)", x.meant(0, 3, 0, 5), 0);
    x.check(3);
    is("meant(0, 3, 1, 2) whatever the check", x.meant(0, 3, 1, 2), 1 | 4 | 16);
    fill(x, 1, 3, 6 + (1L << 32), 7);
    is("meant(1, 3, 0, 2), wider items", x.meant(1, 3, 0, 2), 0);
    int[][] bad = {{4, 0, 0, 1}, {-1, 0, 0, 1}, {0, 4, 0, 1}, {0, -1, 0, 1}, {0, 3, 0, 0}, {0, 3, 0, 7}, {2, 3, -1, 7}};
    for (int[] b : bad) is("meant(" + b[0] + ", " + b[1] + ", " + b[2] + ", " + b[3] + ")", x.meant(b[0], b[1], b[2], b[3]), BAD);
    is("meant(2, 0, 0, 1)", x.meant(2, 0, 0, 1), NULL);
    is("meant(0, 2, 9, 1)", x.meant(0, 2, 9, 1), CAST);
    for (int i : new int[] {-1, 5, 6, HIGHEST, LOWEST}) is("meant(0, 3, " + i + ", 1)", x.meant(0, 3, i, 1), INDEX);
    is("meant(0, 3, 4, 2)", x.meant(0, 3, 4, 2), INDEX);
    is("meant(0, 3, 0, 6)", x.meant(0, 3, 0, 6), INDEX);
    is("meant(0, 3, 4, 1)", x.meant(0, 3, 4, 1), 0);
  }

  private static void films() {
    promise = 24;
    HeardNumbers x = heard("2;h;s;5");
    for (int lane = 0; lane < 4; lane++) {
      x.sheet(lane, lane, 4);
      is("film(" + lane + ", " + lane + ", 1)", x.film(lane, lane, 1), 2);
      is("meant(" + lane + ", " + lane + ", 1, 2)", x.meant(lane, lane, 1, 2), lane == 0 ? 0 : 1);
    }
    is("film() at the end", x.film(3, 3, 2), 2);
    for (int i : new int[] {3, 4, 5, -1, HIGHEST, LOWEST}) is("film(3, 3, " + i + ")", x.film(3, 3, i), INDEX);
    is("film(3, 2, 9)", x.film(3, 2, 9), CAST);
    x.drop(3);
    is("film(3, 3, 0)", x.film(3, 3, 0), NULL);
    is("film(4, 0, 0)", x.film(4, 0, 0), BAD);
    is("film(-1, 0, 0)", x.film(-1, 0, 0), BAD);
    is("film(0, 4, 0)", x.film(0, 4, 0), BAD);
    is("film(0, -1, 0)", x.film(0, -1, 0), BAD);
    x.check(1);
    is("film(3, 3, 0), no best", x.film(3, 3, 0), NONE);
    is("film(2, 0, 9), no best", x.film(2, 0, 9), NONE);
    is("film(4, 0, 0), no best", x.film(4, 0, 0), BAD);
    filmCuts();
  }

  /** 70000 cut to a short is 4464. */
  private static void filmCuts() {
    HeardNumbers x = heard("7;s;8");
    fill(x, 0, 2, 5, 5, 5, 5);
    is("film(0, 2, 1)", x.film(0, 2, 1), 2);
    x.say(5);
    is("meant(0, 2, 0, 1), the item ahead", x.meant(0, 2, 0, 1), 1 | 4 | 16);
    is("meant(0, 2, 3, 1), the item behind", x.meant(0, 2, 3, 1), 1 | 4 | 16);
    x = heard("70;t");
    x.sheet(0, 1, 1);
    is("film(0, 1, 0)", x.film(0, 1, 0), 1);
    is("meant(0, 1, 0, 1)", x.meant(0, 1, 0, 1), 0);
    x.say(4464);
    is("meant(0, 1, 0, 1)", x.meant(0, 1, 0, 1), 1 | 4 | 16);
    is("film() that is refused", x.film(0, 1, 1), INDEX);
    is("meant(0, 1, 0, 1)", x.meant(0, 1, 0, 1), 1 | 4 | 16);
  }

  private static void sheets() {
    promise = 25;
    HeardNumbers x = heard("5");
    is("sheet(0, 0, 0)", x.sheet(0, 0, 0), 0);
    is("sheet(3, 3, 24)", x.sheet(3, 3, 24), 24);
    is("sheet(0, 0, 25)", x.sheet(0, 0, 25), BAD);
    is("sheet(0, 0, -1)", x.sheet(0, 0, -1), SIZE);
    is("sheet(0, 0, LOWEST)", x.sheet(0, 0, LOWEST), SIZE);
    int[][] bad = {{4, 0, 0}, {-1, 0, 0}, {0, 4, 0}, {0, -1, 0}, {4, 0, -1}, {0, 4, -1}, {0, 0, HIGHEST}};
    for (int[] b : bad) is("sheet(" + b[0] + ", " + b[1] + ", " + b[2] + ")", x.sheet(b[0], b[1], b[2]), BAD);
    is("film(3, 3, 0)", x.film(3, 3, 0), 1);
    is("film(3, 3, 23)", x.film(3, 3, 23), 1);
    is("sheet(3, 3, 24) anew", x.sheet(3, 3, 24), 24);
    is("meant(3, 3, 0, 1)", x.meant(3, 3, 0, 1), 0);
    is("meant(3, 3, 23, 1)", x.meant(3, 3, 23, 1), 0);
    is("sheet(3, 1, 2) of another lane", x.sheet(3, 1, 2), 2);
    is("film(3, 3, 0)", x.film(3, 3, 0), CAST);
    is("sheet(3, 3, -1)", x.sheet(3, 3, -1), SIZE);
    is("film(3, 1, 0), it stays", x.film(3, 1, 0), 1);
  }

  private static void drops() {
    promise = 26;
    HeardNumbers x = new HeardNumbers();
    for (int b : new int[] {-1, 4, LOWEST, HIGHEST}) is("drop(" + b + ")", x.drop(b), BAD);
    is("drop(2)", x.drop(2), NULL);
    x.sheet(2, 0, 24);
    is("drop(2)", x.drop(2), 24);
    is("drop(2)", x.drop(2), NULL);
    x.sheet(2, 0, 0);
    is("drop(2)", x.drop(2), 0);
    is("item(2, 0, 0, 1)", x.item(2, 0, 0, 1), NULL);
  }

  private static void items() {
    promise = 27;
    HeardNumbers x = heard("5");
    long[][] due = {{0, 261, 1}, {0, 127, 0}, {1, 65541, 1}, {1, 261, 0}, {2, (1L << 32) + 5, 1}, {2, 65541, 0},
        {3, 5, 1}, {3, (1L << 32) + 5, 0}, {0, -251, 1}};
    for (long[] d : due) {
      int lane = (int) d[0];
      x.sheet(0, lane, 3);
      is("item(0, " + lane + ", 2, " + d[1] + ")", x.item(0, lane, 2, d[1]), 1);
      is("meant(0, " + lane + ", 2, 1) of " + d[1], x.meant(0, lane, 2, 1), d[2] == 1 ? 1 | 4 | 16 : 0);
      is("meant(0, " + lane + ", 1, 1) of " + d[1], x.meant(0, lane, 1, 1), 0);
    }
    for (int i : new int[] {-1, 3, HIGHEST, LOWEST}) is("item(0, 0, " + i + ", 1)", x.item(0, 0, i, 1), INDEX);
    is("item(0, 1, 9, 1)", x.item(0, 1, 9, 1), CAST);
    is("item(1, 0, 9, 1)", x.item(1, 0, 9, 1), NULL);
    int[][] bad = {{4, 0}, {-1, 0}, {0, 4}, {0, -1}};
    for (int[] b : bad) is("item(" + b[0] + ", " + b[1] + ", 9, 1)", x.item(b[0], b[1], 9, 1), BAD);
  }

  private static void copies() {
    promise = 28;
    HeardNumbers x = heard("1;s;2;s;3");
    fill(x, 0, 2, 9, 1, 2, 3, 8);
    x.sheet(1, 2, 4);
    is("copy(0, 1, 1, 1, 3)", x.copy(0, 1, 1, 1, 3), 3);
    is("meant(1, 2, 1, 3)", x.meant(1, 2, 1, 3), 1 | 2 | 4 | 8 | 16);
    is("copy(0, 1, 0, 2, 3) over itself", x.copy(0, 1, 0, 2, 3), 3);
    is("meant(0, 2, 2, 3)", x.meant(0, 2, 2, 3), 31);
    is("copy(0, 2, 0, 1, 3) over itself", x.copy(0, 2, 0, 1, 3), 3);
    is("meant(0, 2, 1, 3)", x.meant(0, 2, 1, 3), 31);
    is("copy(0, 5, 1, 4, 0)", x.copy(0, 5, 1, 4, 0), 0);
    int[][] index = {{0, 6, 1, 0, 0}, {0, 0, 1, 5, 0}, {0, -1, 1, 0, 0}, {0, 0, 1, -1, 0}, {0, 0, 1, 0, -1}, {0, 0, 1, 0, 5},
        {0, 3, 1, 0, 3}, {0, HIGHEST, 1, 0, 2}, {0, 1, 1, 0, HIGHEST}, {0, 0, 1, 0, LOWEST}};
    for (int[] b : index) is("copy(" + b[0] + ", " + b[1] + ", " + b[2] + ", " + b[3] + ", " + b[4] + ")", x.copy(b[0], b[1], b[2], b[3], b[4]), INDEX);
    is("meant(0, 2, 1, 3)", x.meant(0, 2, 1, 3), 31);
    x.sheet(2, 3, 4);
    is("copy(0, 9, 2, 0, 1)", x.copy(0, 9, 2, 0, 1), CAST);
    is("copy(0, 0, 3, 0, 1)", x.copy(0, 0, 3, 0, 1), NULL);
    is("copy(3, 9, 2, 0, -1)", x.copy(3, 9, 2, 0, -1), NULL);
    int[][] bad = {{4, 0}, {-1, 0}, {0, 4}, {0, -1}, {3, 4}};
    for (int[] b : bad) is("copy(" + b[0] + ", 0, " + b[1] + ", 0, -1)", x.copy(b[0], 0, b[1], 0, -1), BAD);
  }

  public static void main(String[] args) {
    newObject();
    typeLetters();
    wordsAsText();
    sayNumbers();
    slotTells();
    counts();
    spoiltOnes();
    nextOnes();
    looksAndQuestions();
    hearWords();
    alsoWords();
    loseSlots();
    settleWords();
    checkKinds();
    slackNumbers();
    storms();
    undone();
    seeds();
    bests();
    takenWords();
    openWords();
    countedOnes();
    likelyOnes();
    images();
    meantKinds();
    films();
    sheets();
    drops();
    items();
    copies();
    System.out.println(wrong == 0 ? asked + " answers are as due" : wrong + " of " + asked + " answers are not as due");
    if (wrong != 0) System.exit(1);
  }
}
