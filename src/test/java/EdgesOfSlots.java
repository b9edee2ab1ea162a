/** Boundaries of ==== 1 (WORDS, NUMBERS, SLOTS, KINDS) and of the promises 1 to 6: type, words, say, slot, count. */
public final class EdgesOfSlots extends Edges {
  private static final int NOISE = 0, HUNDRED = 28, THOUSAND = 29, AND = 30, STOP = 31;
  private static final String LETTERS = "htasn";
  private static final int[] LETTER_WORDS = {28, 29, 30, 31, 0};

  // ---- words and numbers

  private static int worth(int word) {
    return word < 20 ? word : new int[] {20, 30, 40, 50, 60, 70, 80, 90}[word - 20];
  }

  private static boolean isDigit(int word) {
    return word >= 1 && word <= 9;
  }

  private static boolean isTens(int word) {
    return word >= 20 && word <= 27;
  }

  private static boolean isLow(int word) {
    return word >= 1 && word <= 27;
  }

  private static HeardNumbers hearing(int... words) {
    HeardNumbers x = new HeardNumbers();
    for (int w : words) x.hear(w, 0);
    return x;
  }

  private static void said(String what, long want, int... words) {
    HeardNumbers x = hearing(words);
    is(what + ": said", x.count(3), want < 0 ? 0 : 1);
    is(what + ": best(-2)", x.best(-2), want < 0 ? -4 : 1);
    is(what + ": best(0)", x.best(0), want < 0 ? -4 : want);
  }

  private static void singleWords() {
    of("1 .. 19 are worth just that, 20 .. 27 twenty, thirty, .. ninety; 28 HUNDRED, 29 THOUSAND, 30 AND, 31 STOP, 0 NOISE.");
    for (int w = 0; w < 32; w++) said("the word " + w, isLow(w) ? worth(w) : -1, w);
  }

  /** Two words, all of them; what stands of two STOPS and NUMBERS is looked at elsewhere. */
  private static void pairsOfWords() {
    of("LOW: a WORD 1 .. 19; or one of 20 .. 27, perhaps a WORD 1 .. 9 behind it (together).");
    for (int a = 0; a < 32; a++) {
      for (int b = 0; b < 32; b++) {
        int want = -1;
        if (a == NOISE) want = isLow(b) ? worth(b) : -1;
        else if (b == NOISE) want = isLow(a) ? worth(a) : -1;
        else if (isTens(a) && isDigit(b)) want = worth(a) + b;
        else if (isDigit(a) && b == HUNDRED) want = 100 * a;
        else if (isLow(a) && b == THOUSAND) want = 1000 * worth(a);
        said("the words " + a + " " + b, want, a, b);
      }
    }
  }

  private static void behindHundred() {
    of("a WORD 1 .. 9, HUNDRED (100 times that), perhaps then LOW, or AND, LOW (together)");
    for (int w = 0; w < 32; w++) {
      said("9 hundred, " + w, isLow(w) ? 900 + worth(w) : w == NOISE ? 900 : w == THOUSAND ? 900000 : -1, 9, HUNDRED, w);
      said("1 hundred and, " + w, isLow(w) ? 100 + worth(w) : -1, 1, HUNDRED, AND, w);
      said("1 hundred, twenty, " + w, isDigit(w) ? 120 + w : w == NOISE ? 120 : w == THOUSAND ? 120000 : -1, 1, HUNDRED, 20, w);
      said("1 hundred and twenty, " + w, isDigit(w) ? 120 + w : w == NOISE ? 120 : w == THOUSAND ? 120000 : -1, 1, HUNDRED, AND, 20, w);
      said("1 hundred, 9, " + w, w == NOISE ? 109 : w == THOUSAND ? 109000 : -1, 1, HUNDRED, 9, w);
      said("1 hundred and 9, " + w, w == NOISE ? 109 : w == THOUSAND ? 109000 : -1, 1, HUNDRED, AND, 9, w);
      said(w + ", hundred and 1", isDigit(w) ? w * 100 + 1 : -1, w, HUNDRED, AND, 1);
      said("twenty, " + w + ", hundred", -1, 20, w, HUNDRED);
    }
  }

  private static void behindThousand() {
    of("SMALL, THOUSAND (1000 times that), perhaps then SMALL, or AND, LOW (together)");
    for (int w = 0; w < 32; w++) {
      said("1 thousand, " + w, isLow(w) ? 1000 + worth(w) : w == NOISE ? 1000 : -1, 1, THOUSAND, w);
      said("1 thousand and " + w, isLow(w) ? 1000 + worth(w) : -1, 1, THOUSAND, AND, w);
      said("1 thousand, " + w + " hundred", isDigit(w) ? 1000 + 100 * w : -1, 1, THOUSAND, w, HUNDRED);
      said("1 thousand and " + w + " hundred", -1, 1, THOUSAND, AND, w, HUNDRED);
      said("1 thousand, 1 hundred and " + w, isLow(w) ? 1100 + worth(w) : -1, 1, THOUSAND, 1, HUNDRED, AND, w);
      said("1 thousand, 1, " + w, isDigit(w) ? -1 : w == NOISE ? 1001 : w == HUNDRED ? 1100 : -1, 1, THOUSAND, 1, w);
      said("1 thousand and twenty, " + w, isDigit(w) ? 1020 + w : w == NOISE ? 1020 : -1, 1, THOUSAND, AND, 20, w);
      said("9 hundred and ninety, " + w + ", thousand", isDigit(w) ? 990000 + w * 1000 : w == NOISE ? 990000 : -1, 9, HUNDRED, AND, 27, w, THOUSAND);
    }
    said("the greatest", 999990, 9, HUNDRED, 27, 9, THOUSAND, 9, HUNDRED, 27);
    said("the greatest and", 909999, 9, HUNDRED, 9, THOUSAND, 9, HUNDRED, 27, 9);
    said("thousand thousand", -1, 1, THOUSAND, 1, THOUSAND);
    said("and, and", -1, 1, HUNDRED, AND, AND, 1);
    said("twice and", 101001, 1, HUNDRED, AND, 1, THOUSAND, AND, 1);
    said("hundred and thousand", -1, 1, HUNDRED, AND, THOUSAND);
  }

  private static void oneAtLeast() {
    String said = "It is SAID, if its WORDS, NOISE left out, are NUMBERS, one at least, a STOP between each two.";
    edge(said, "count 3 = 0", "hear 0 0", "count 3 = 0", "hear 5 0", "count 3 = 1", times(6, "hear 0 0"), "count 3 = 1", "best 0 = 5");
    of(said);
    String[] none = {"s", "n;s", "5;s", "s;5", "n;s;5", "5;s;n", "5;s;s;6", "5;s;n;s;6", "5;6", "5;n;6", "s;s", "5;s;6;s", "5;s;6;s;7;s;8;s", "5;s;h", "t;s;5"};
    for (String text : none) tells(text, 0, "");
    tells("5;s;6", 0, "5 6");
    tells("n;5;n;s;n;6;n", 0, "5 6");
    tells("1;s;2;s;3;s;4", 0, "1 2 3 4");
    tells("1;s;2;s;3;s;20;4", 0, "1 2 3 24");
    tells("1;h;s;1;t;s;90;9", 0, "100 1000 99");
  }

  // ---- kinds of check

  private static void kindsAtTheirEdges() {
    of("1 TOTAL: there are two at least, and the last one is all others together.");
    tells("5", 1, "");
    tells("5;s;5", 1, "5 5");
    tells("5;s;6", 1, "");
    tells("5;s;4", 1, "");
    tells("5;s;6;s;10", 1, "");
    tells("5;s;6;s;11", 1, "5 6 11");
    tells("5;s;6;s;12", 1, "");
    tells("1;s;2;s;3;s;6", 1, "1 2 3 6");
    tells("6;s;1;s;2;s;3", 1, "");
    tells("1;h;s;1;t;1;h", 1, "");
    of("2 RISING (below FREE): each is greater than the one ahead of it.");
    tells("5", 2, "5");
    tells("5;s;4", 2, "");
    tells("5;s;5", 2, "");
    tells("5;s;6", 2, "5 6");
    tells("5;s;6;s;6", 2, "");
    tells("5;s;7;s;6", 2, "");
    tells("5;s;5;s;6", 2, "");
    tells("1;s;2;s;4;s;3", 2, "");
    tells("1;s;2;s;4;s;5", 2, "1 2 4 5");
    of("3 ENDING (below TOTAL): as TOTAL, but by the last two figures alone.");
    tells("5", 3, "");
    tells("1;h", 3, "");
    tells("5;s;5", 3, "5 5");
    tells("5;s;1;h;5", 3, "5 105");
    tells("5;s;15", 3, "");
    tells("5;s;50", 3, "");
    tells("1;h;s;1;t", 3, "100 1000");
    tells("90;9;s;1;s;1;h", 3, "99 1 100");
    tells("90;9;s;2;s;1", 3, "99 2 1");
    tells("90;9;s;1;s;1", 3, "");
    tells("60;s;50;s;10", 3, "60 50 10");
    tells("60;s;50;s;1;h;10", 3, "60 50 110");
    tells("60;s;50;s;20", 3, "");
    of("4 STEADY (below RISING): as RISING, and each is as much greater than the one ahead of it.");
    tells("5", 4, "5");
    tells("5;s;5", 4, "");
    tells("5;s;4", 4, "");
    tells("5;s;6", 4, "5 6");
    tells("5;s;5;s;5", 4, "");
    tells("9;s;8;s;7", 4, "");
    tells("5;s;6;s;7", 4, "5 6 7");
    tells("5;s;6;s;8", 4, "");
    tells("5;s;7;s;8", 4, "");
    tells("1;s;4;s;7;s;10", 4, "1 4 7 10");
    tells("1;s;4;s;7;s;11", 4, "");
    of("0 FREE: always.");
    for (String numbers : new String[] {"5", "5 5", "6 5", "5 6", "5 6 7 9"}) tells(numbers.replace(" ", ";s;"), 0, numbers);
  }

  // ---- slots and candidates

  private static void slotsAndCandidates() {
    edge("SLOTS 0, 1, .. (8 at most; none at first)", "count 0 = 0", "slot 0 -1 0 ! BAD", "hear 5 0 = 1", "slot 0 -1 0 ! 1", "slot 1 -1 0 ! BAD", times(6, "hear 0 0"),
        "count 0 = 7", "hear 9 9 = 8", "hear 0 0 ! FULL", "slot 7 0 0 ! 9", "slot 8 0 0 ! BAD");
    edge("have 1 to 4 CANDIDATES each", "hear 5 0", "slot 0 -1 0 ! 1", "also 0 6 0 = 2", "also 0 7 0 = 3", "also 0 8 0 = 4", "also 0 9 0 ! FULL", "slot 0 -1 0 ! 4", "settle 0 7 = 3", "settle 0 7 ! NOT", "slot 0 -1 0 ! 1");
    edge("unlike WORDS with a COST (0 .. 9)", "hear 5 0", "also 0 5 0 ! NOT", "also 0 5 9 ! NOT", "also 0 6 -1 ! BAD", "also 0 6 0 = 2", "also 0 7 9 = 3", "also 0 8 10 ! BAD",
        "slot 0 0 1 ! 0", "slot 0 1 1 ! 0", "slot 0 2 1 ! 9", "hear 5 10 ! BAD", "hear 5 9 = 2", "hear 5 -1 ! BAD", "hear 5 0 = 3");
    edge("in the order in which they came", "hear 9 3", "also 0 0 2", "also 0 31 1", "also 0 1 0", "slot 0 0 0 ! 9", "slot 0 1 0 ! 0", "slot 0 2 0 ! 31", "slot 0 3 0 ! 1",
        "slot 0 0 1 ! 3", "slot 0 1 1 ! 2", "slot 0 2 1 ! 1", "slot 0 3 1 ! 0");
    edge("which is of a KIND (0 at first)", "count 1 = 0", "check 0 ! NOT", "check 4 = 0", "count 1 = 4", "check 5 ! BAD", "check -1 ! BAD");
    edge("SLACK (0 .. 20; 0 at first) is another one.", "count 2 = 0", "slack 0 ! NOT", "slack 20 = 0", "count 2 = 20", "slack 21 ! BAD", "slack -1 ! BAD", "slack 20 ! NOT", "slack 0 = 20");
    edge("its COST: all of theirs.", "hear 5 9", times(7, "hear 0 9"), "best -1 ! 72", "lose 7", "best -1 ! 63");
  }

  // ---- 1 a new object, 2 type

  private static void newObject() {
    edge("Nothing heard.", "count 0 ! 0", "count 1 ! 0", "count 2 ! 0", "count 3 ! 0", "count 4 ! 0", "count 5 ! 0", "count 6 ! NONE", "count 7 ! NONE", "count 8 ! NONE", "count 9 ! NONE", "count 10 ! 0",
        "best -1 ! NONE", "best -2 ! NONE", "best 0 ! NONE", "taken 0 ! BAD", "open 0 ! BAD", "counted 0 0 ! NONE", "likely 0 0 ! NONE", "undo ! NONE", "restore ! NONE",
        "drop 0 ! NULL", "drop 1 ! NULL", "drop 2 ! NULL", "drop 3 ! NULL", "seed 1 = 1", "type 53 = 1");
  }

  private static void tape() {
    edge("BAD: not 32 .. 126; FULL: 120.", "type 31 ! BAD", "type 32 = 1", "type 126 = 2", "type 127 ! BAD", "type -1 ! BAD", "type 0 ! BAD", "type MIN ! BAD", "type MAX ! BAD", "type 288 ! BAD", "type 65589 ! BAD", "type 33 = 3");
    edge("BAD: not 32 .. 126; FULL: 120.", times(119, "type 32"), "type 53 = 120", "type 53 ! FULL", "type 32 ! FULL", "type 127 ! BAD", "words = 1", "type 53 = 1", "words = 1", "best 0 = 5");
    of("One letter more behind THE TAPE: how many it has.");
    HeardNumbers x = new HeardNumbers();
    for (int i = 1; i <= 120; i++) is("type the " + i + "-th", x.type(32 + i % 95), i);
    is("type the 121st", x.type(53), -3);
  }

  // ---- 3 words

  private static void fault(String said, String text, int place) {
    edge(said, "text '7,8:1;s;9'", "check 2", "text '" + text + "' ! " + (-20 - place), "count 0 = 3", "count 10 = 1", "type 53 = 1");
  }

  private static void fine(String said, String text, int... due) {
    of(said);
    HeardNumbers x = new HeardNumbers();
    int slots = due.length == 0 ? 0 : 1;
    for (int v : due) if (v < 0) slots++;
    is("words() of '" + text + "'", tell(x, text), slots);
    int slot = 0, k = 0;
    for (int i = 0; i < due.length; i++) {
      if (due[i] < 0) {
        is("'" + text + "' slot(" + slot + ", -1, 0)", x.slot(slot, -1, 0), k);
        slot++;
        k = 0;
        continue;
      }
      is("'" + text + "' slot(" + slot + ", " + k + ", 0)", x.slot(slot, k, 0), due[i] / 10);
      is("'" + text + "' slot(" + slot + ", " + k + ", 1)", x.slot(slot, k, 1), due[i] % 10);
      k++;
    }
    if (slots > 0) is("'" + text + "' slot(" + slot + ", -1, 0)", x.slot(slot, -1, 0), k);
  }

  private static void textSizes() {
    String said = "0 to 8 SLOTS with ; between";
    fine(said, "");
    fine(said, " ");
    fine(said, " ".repeat(120));
    fine(said, "5", 50);
    fine(said, "5;6;7;8;9;10;11;12", 50, -1, 60, -1, 70, -1, 80, -1, 90, -1, 100, -1, 110, -1, 120);
    fault(said, "5;6;7;8;9;10;11;12;", 18);
    fault(said, "5;6;7;8;9;10;11;12;13", 18);
    fault(said, "5;6;7;8;9;10;11;12 ; 13", 19);
    fault(said, ";", 0);
    fault(said, "5;", 2);
    fault(said, ";5", 0);
    fault(said, "5;;6", 2);
    fault(said, "5; ;6", 3);
    said = "each of 1 to 4 CANDIDATES with , between";
    fine(said, "5,6,7,8;9", 50, 60, 70, 80, -1, 90);
    fine(said, "1,2,3,4;1,2,3,4;1,2,3,4;1,2,3,4;1,2,3,4;1,2,3,4;1,2,3,4;1,2,3,4", 10, 20, 30, 40, -1, 10, 20, 30, 40, -1, 10, 20, 30, 40, -1, 10, 20, 30, 40, -1,
        10, 20, 30, 40, -1, 10, 20, 30, 40, -1, 10, 20, 30, 40, -1, 10, 20, 30, 40);
    fault(said, "5,6,7,8,", 7);
    fault(said, "5,6,7,8,9", 7);
    fault(said, "5,6,7,8,x", 7);
    fault(said, "5,6,7,8 , 5", 8);
    fault(said, "1;5,6,7,8,9", 9);
    fault(said, "1;2;3;4;5;6;7;5,6,7,8,9", 21);
    fault(said, "1;2;3;4;5;6;7;5,6,7,8;9", 21);
    fault(said, ",", 0);
    fault(said, "5,", 2);
    fault(said, ",5", 0);
    fault(said, "5,,6", 2);
    fault(said, "5,;6", 2);
    fault(said, "5;,6", 2);
  }

  private static void textWords() {
    String said = "a WORD: a number 1 .. 19, or 20, 30, .. 90, or h t a s n (HUNDRED, THOUSAND, AND, STOP, NOISE)";
    fault(said, "0", 0);
    for (int v = 1; v < 100; v++) {
      if (v < 20) fine(said, "" + v, v * 10);
      else if (v % 10 == 0) fine(said, "" + v, (18 + v / 10) * 10);
      else fault(said, "" + v, 0);
    }
    for (int i = 0; i < 5; i++) fine(said, "" + LETTERS.charAt(i), LETTER_WORDS[i] * 10);
    for (char c = 33; c < 127; c++) {
      if (LETTERS.indexOf(c) < 0 && (c < '1' || c > '9')) {
        fault(said, "" + c, 0);
        fault(said, " 5;  " + c, 5);
        fault(said, "5 , " + c + ";6", 4);
      }
    }
  }

  private static void textCosts() {
    String said = "then perhaps : and a figure (its COST; else 0)";
    for (int c = 0; c < 10; c++) fine(said, "h:" + c + ",t", 280 + c, 290);
    for (char c = 33; c < 127; c++) if (c < '0' || c > '9') fault(said, "5:" + c, 2);
    fault(said, "5:", 2);
    fault(said, "5:;6", 2);
    fault(said, "5::1", 2);
    fault(said, ":1", 0);
    fault(said, "5;:1", 2);
    fault(said, "5:10", 3);
    fault(said, "5:1:1", 3);
    fault(said, "5:h", 2);
    fault(said, "5:-1", 2);
    fine(said, "5:0,6:9;h:1;n", 50, 69, -1, 281, -1, 0);
  }

  private static void textDigits() {
    String said = "Numbers have 1 or 2 digits (a third one can't stand there).";
    fine(said, "9;10;19;90", 90, -1, 100, -1, 190, -1, 270);
    for (int d = 0; d < 10; d++) {
      fault(said, "10" + d, 2);
      fault(said, "19" + d, 2);
      fault(said, "90" + d, 2);
      fault(said, "5,20" + d + "0", 4);
    }
    fault(said, "1000", 2);
    fault(said, "20:5,190", 7);
  }

  private static void textFaults() {
    String said = "-20 less the place of the first letter (behind blanks) that can't stand there";
    for (char c = 33; c < 127; c++) {
      if (c != ';' && c != ',' && c != ':') {
        fault(said, "h" + c, 1);
        fault(said, "h  " + c + " x", 3);
        fault(said, "20 " + c, 3);
        fault(said, "5:3" + c, 3);
      }
      if ((c < '0' || c > '9') && c != ';' && c != ',' && c != ':') fault(said, "1;5" + c, 3);
    }
    fault(said, "   x", 3);
    fault(said, "5 5", 2);
    fault(said, "x;y", 0);
    fault(said, "5;" + " ".repeat(117) + "x", 119);
    said = "or of the WORD's first one, if it is no WORD, or the SLOT has it";
    fault(said, "5; 25", 3);
    fault(said, "5;  0 ;6", 4);
    fault(said, "5,5", 2);
    fault(said, "5,6, 5", 5);
    fault(said, "5,6,7,5", 6);
    fault(said, "5:1,5:2", 4);
    fault(said, "20,20", 3);
    fault(said, "20,2,20", 5);
    fault(said, "h,h", 2);
    fault(said, "t,h,t", 4);
    fault(said, "n,5,n", 4);
    fine(said, "5,6;5,6;6", 50, 60, -1, 50, 60, -1, 60);
    fine(said, "1,10,19,2", 10, 100, 190, 20);
    said = "(of both the first one's; the end: how many there are)";
    fault(said, "25x", 0);
    fault(said, "215", 0);
    fault(said, "990", 0);
    fault(said, "000", 0);
    fault(said, "5,5x", 2);
    fault(said, "5,5:x", 2);
    fault(said, "5,5:", 2);
    fault(said, "5;21;", 2);
    fault(said, "5:x,21", 2);
    fault(said, "5 x,5", 2);
    fault(said, "5,20x,20", 4);
    fault(said, "5;", 2);
    fault(said, "5,", 2);
    fault(said, "5:", 2);
    fault(said, " 5 ; 6 , ", 9);
    fault(said, " 5 ; ", 5);
    fault(said, "5:   ", 5);
    fault(said, "5" + " ".repeat(118) + ";", 120);
  }

  private static void textBlanks() {
    String said = "blanks count for nothing, but end a number.";
    fine(said, "  5  :  3  ,  h  ;  20  :  0  ", 53, 280, -1, 200);
    fine(said, "5:3,h;20:0", 53, 280, -1, 200);
    fine(said, " 19 ", 190);
    fault(said, "1 9", 2);
    fault(said, "2 0", 2);
    fault(said, "10 0", 3);
    fault(said, "2 5", 2);
    fault(said, "5:1 2", 4);
    fine(said, " ".repeat(119) + "5", 50);
    fine(said, "5" + " ".repeat(119), 50);
  }

  private static void textInPlaceOfAll() {
    String said = "in place of all SLOTS (CHECK, SLACK, THE DRAW, the IMAGE, SHEETS stay)";
    String state = "sheet 0 1 2\nitem 0 1 1 7\nseed 99\ncheck 3\nslack 4\ntext '8'\nimage\n";
    same(said, state + "text '5;6,7:1'", state + "text '1,2,3,4;1,2,3,4;1,2,3,4;1,2,3,4;1,2,3,4;1,2,3,4;1,2,3,4;1,2,3,4'\ntext '5;6,7:1'");
    same(said, state + "text ''", state + "text '5;6;7'\nhear 5 0\nwords");
    edge(said, state, "text '5;6'", "count 0 = 2", "count 1 = 3", "count 2 = 4", "seed 1 = 99", "restore = 1", "count 0 = 1", "slot 0 0 0 = 8", "drop 0 = 2");
    edge("is WORDS: how many SLOTS.", state, "words = 0", "count 0 = 0", "text 'n' = 1", "text 'n;n;n;n;n;n;n;n' = 8", "words = 0", "count 0 = 0");
  }

  // ---- 4 say, 5 slot, 6 count

  private static void sayNumbers() {
    String said = "as the number v (1 .. 999999) is said (no AND): how many.";
    edge(said, "say MIN ! BAD", "say -1 ! BAD", "say 0 ! BAD", "say 1 = 1", "best 0 ! 1", "say 1000000 ! BAD", "say MAX ! BAD", "best 0 ! 1");
    int[][] due = {{1, 1}, {9, 9}, {10, 10}, {19, 19}, {20, 20}, {21, 20, 1}, {29, 20, 9}, {30, 21}, {90, 27}, {99, 27, 9}, {100, 1, 28}, {101, 1, 28, 1}, {110, 1, 28, 10},
        {119, 1, 28, 19}, {120, 1, 28, 20}, {999, 9, 28, 27, 9}, {1000, 1, 29}, {1001, 1, 29, 1}, {1100, 1, 29, 1, 28}, {19000, 19, 29}, {20000, 20, 29}, {99000, 27, 9, 29},
        {100000, 1, 28, 29}, {100001, 1, 28, 29, 1}, {999000, 9, 28, 27, 9, 29}, {999099, 9, 28, 27, 9, 29, 27, 9}, {999990, 9, 28, 27, 9, 29, 9, 28, 27}, {909999, 9, 28, 9, 29, 9, 28, 27, 9}};
    for (int[] d : due) {
      HeardNumbers x = after("text '1,2;3'", "slack 5");
      is("say(" + d[0] + ")", x.say(d[0]), d.length - 1);
      is("count(0)", x.count(0), d.length - 1);
      for (int i = 1; i < d.length; i++) {
        is("say(" + d[0] + ") slot(" + (i - 1) + ", 0, 0)", x.slot(i - 1, 0, 0), d[i]);
        is("say(" + d[0] + ") slot(" + (i - 1) + ", 0, 1)", x.slot(i - 1, 0, 1), 0);
        is("say(" + d[0] + ") slot(" + (i - 1) + ", -1, 0)", x.slot(i - 1, -1, 0), 1);
      }
      is("best(0)", x.best(0), d[0]);
    }
    edge("BAD; FULL: more than 8.", "say 999990 = 8", "say 999991 ! FULL", "say 999999 ! FULL", "say 121121 ! FULL", "say 121120 = 8", "say 121119 = 8", "say 111121 = 8", "say 121111 = 8",
        "say 120121 = 8", "say 101121 = 8", "say 777777 ! FULL");
    everyNumberIsSaid();
    String state = "sheet 0 1 2\nitem 0 1 1 7\nseed 99\ncheck 3\nslack 4\ntext '8'\nimage\ntype 53\n";
    same("SLOTS, one CANDIDATE each, COST 0, in place of all", state + "say 25", state + "hear 1 3\nalso 0 4 4\nstorm 3\nseed 99\nsay 25");
  }

  /** Of all numbers, by steps; more than 8 words are refused. */
  private static void everyNumberIsSaid() {
    of("BAD; FULL: more than 8.");
    HeardNumbers x = null;
    for (int v = 1, calls = 0; v <= 999999; v += v < 2000 ? 1 : 37, calls++) {
      if (calls % 200 == 0) x = new HeardNumbers();
      int thousands = wordsOfSmall(v / 1000), words = thousands + (v >= 1000 ? 1 : 0) + wordsOfSmall(v % 1000);
      is("say(" + v + ")", x.say(v), words > 8 ? -3 : words);
      if (words <= 8) is("best(0) of " + v, x.best(0), v);
    }
  }

  private static int wordsOfSmall(int v) {
    int low = v % 100;
    return (v >= 100 ? 2 : 0) + (low == 0 ? 0 : low < 20 || low % 10 == 0 ? 1 : 2);
  }

  private static void slotTells() {
    String state = "text '5:1,6:2;7:3,8:4,9:5,10:6;n:9'";
    edge("NONE: not so many. BAD: k below -1.", state, "slot 0 MIN 0 ! BAD", "slot 0 -2 0 ! BAD", "slot 0 -1 0 ! 2", "slot 0 -1 1 ! 2", "slot 0 0 0 ! 5", "slot 0 1 0 ! 6", "slot 0 2 0 ! NONE", "slot 0 3 1 ! NONE", "slot 0 MAX 0 ! NONE",
        "slot 1 -1 0 ! 4", "slot 1 3 0 ! 10", "slot 1 4 0 ! NONE", "slot 2 0 0 ! 0", "slot 2 1 0 ! NONE");
    edge("how many CANDIDATES (k -1), the WORD of the k-th (what 0), its COST (1)", state, "slot 0 0 -1 ! BAD", "slot 0 0 0 ! 5", "slot 0 0 1 ! 1", "slot 0 0 2 ! BAD", "slot 0 0 MIN ! BAD", "slot 0 0 MAX ! BAD",
        "slot 0 1 1 ! 2", "slot 1 3 1 ! 6", "slot 2 0 1 ! 9");
    edge("there is no such thing", state, "slot -1 0 0 ! BAD", "slot 0 0 0 ! 5", "slot 2 0 0 ! 0", "slot 3 0 0 ! BAD", "slot 3 -1 0 ! BAD", "slot MIN 0 0 ! BAD", "slot MAX 0 0 ! BAD", "lose 2", "slot 2 0 0 ! BAD");
  }

  private static void countTells() {
    edge("10 what may be UNDONE. BAD.", "text '5,6:1'", "count -1 ! BAD", "count 0 ! 1", "count 10 ! 0", "count 11 ! BAD", "count MIN ! BAD", "count MAX ! BAD");
    edge("6 LOOK (NONE), 7 QUESTIONS (NONE), 8 NEXT (NONE), 9 SPOILT (NONE: there is no BEST)", "text 't'", "count 3 ! 0", "count 4 ! 0", "count 5 ! 0", "count 6 ! NONE", "count 7 ! NONE", "count 8 ! NONE", "count 9 ! NONE");
    edge("6 LOOK (NONE), 7 QUESTIONS (NONE), 8 NEXT (NONE), 9 SPOILT (NONE: there is no BEST)", "text '5;s;6'", "check 1", "count 3 ! 1", "count 4 ! 0", "count 5 ! 0", "count 6 ! NONE", "count 7 ! NONE", "count 8 ! NONE", "count 9 ! NONE");
    edge("6 LOOK (NONE), 7 QUESTIONS (NONE), 8 NEXT (NONE), 9 SPOILT (NONE: there is no BEST)", "text '5;s;5'", "check 1", "count 3 ! 1", "count 4 ! 1", "count 5 ! 1", "count 6 ! NONE", "count 7 ! 0", "count 8 ! NONE", "count 9 ! 0");
    edge("3 READINGS that are SAID, 4 SOUND, 5 COUNTED", "text '5,6,7:1,t;s,n:9;5,6:1,7,h'", "check 1", "count 3 ! 12", "count 4 ! 3", "count 5 ! 1", "slack 1", "count 5 ! 3", "slack 20", "count 5 ! 3", "check 0", "count 4 ! 12");
    edge("10 what may be UNDONE.", "count 10 = 0", times(7, "hear 0 0"), "count 10 = 7", "hear 0 0", "count 10 = 8", "slack 1", "count 10 = 8", "undo = 7", "count 10 = 7", "say 5", "count 10 = 0");
  }

  public static void main(String[] args) {
    singleWords();
    pairsOfWords();
    behindHundred();
    behindThousand();
    oneAtLeast();
    kindsAtTheirEdges();
    slotsAndCandidates();
    newObject();
    tape();
    textSizes();
    textWords();
    textCosts();
    textDigits();
    textFaults();
    textBlanks();
    textInPlaceOfAll();
    sayNumbers();
    slotTells();
    countTells();
    end();
  }
}
