/** Boundaries of MEANT, of SHEETS, and of the promises 23 to 28: meant, film, sheet, drop, item, copy. */
public final class EdgesOfSheets extends Edges {
  private static String row(int sheet, int lane, long... items) {
    StringBuilder s = new StringBuilder("sheet " + sheet + " " + lane + " " + items.length);
    for (int i = 0; i < items.length; i++) s.append("\nitem " + sheet + " " + lane + " " + i + " " + items[i]);
    return s.toString();
  }

  /** What stands there can be seen where a NUMBER is like it; there is no NUMBER 0. */
  private static String holds(int sheet, int lane, int i, int v) {
    return "text ''\nsay " + v + "\nmeant " + sheet + " " + lane + " " + i + " 1 ! {0,2,4}";
  }

  private static String holdsNot(int sheet, int lane, int i, int v) {
    return "text ''\nsay " + v + "\nmeant " + sheet + " " + lane + " " + i + " 1 ! 0";
  }

  // ---- 23 meant

  private static void meantRows() {
    String said = "MEANT: a row tells n NUMBERS (1 .. 6): KINDS (a set) of CHECK by which BEST has just these.";
    edge(said, row(0, 2, 5, 6, 7, 8, 9, 10), "text '5'", "meant 0 2 0 0 ! BAD", "meant 0 2 0 1 ! {0,2,4}", "meant 0 2 0 2 ! 0", "meant 0 2 0 5 ! 0", "meant 0 2 0 6 ! 0", "meant 0 2 0 7 ! BAD", "meant 0 2 0 -1 ! BAD", "meant 0 2 0 MIN ! BAD", "meant 0 2 0 MAX ! BAD",
        "meant 0 2 1 1 ! 0", "text '6'", "meant 0 2 1 1 ! {0,2,4}", "text '10'", "meant 0 2 5 1 ! {0,2,4}");
    edge(said, row(0, 2, 5, 6, 7, 8, 9, 10), "text '5;s;6;s;7;s;8'", "meant 0 2 0 4 ! {0,2,4}", "meant 0 2 0 3 ! 0", "meant 0 2 0 5 ! 0", "meant 0 2 1 4 ! 0", "meant 0 2 0 6 ! 0");
    edge(said, row(0, 2, 1, 2, 3, 6), "text '1;s;2;s;3;s;6'", "meant 0 2 0 4 ! {0,1,2,3}", "text '1;s;2;s;3'", "meant 0 2 0 3 ! {0,1,2,3,4}", "text '1;s;2;s;3;s;7'", "meant 0 2 0 4 ! 0");
    edge(said, row(0, 2, 5, 105), "text '5;s;1;h;5'", "meant 0 2 0 2 ! {0,2,3,4}", row(0, 2, 5, 5), "text '5;s;5'", "meant 0 2 0 2 ! {0,1,3}", row(0, 2, 6, 5), "text '6;s;5'", "meant 0 2 0 2 ! {0}");
    edge(said, row(0, 2, 6, 7, 5, 5), "text '5:1,6;s;7,11,12:2,5:3'", "meant 0 2 0 2 ! {0,2,4}", "meant 0 2 2 2 ! {1,3}", "meant 0 2 1 2 ! 0", "check 3", "meant 0 2 0 2 ! {0,2,4}", "count 1 ! 3", "slack 20", "meant 0 2 0 2 ! {0,2,4}");
    edge(said, row(0, 2, 5), "meant 0 2 0 1 ! 0", "text 't'", "meant 0 2 0 1 ! 0", "text '5,6'", "meant 0 2 0 1 ! {0,2,4}", "text '6,5'", "meant 0 2 0 1 ! 0", "text '6:1,5'", "meant 0 2 0 1 ! {0,2,4}", "text '5:1,6'", "meant 0 2 0 1 ! 0", "text '5:2,6:1,7'", "meant 0 2 0 1 ! 0");
  }

  private static void meantRefused() {
    String said = "MEANT by n items of a SHEET taken as a row of a LANE, from item i on. BAD; NULL; CAST; INDEX.";
    edge(said, "text '5'", row(3, 3, 1, 2, 3, 4, 5, 6), "meant -1 3 0 1 ! BAD", "meant 4 3 0 1 ! BAD", "meant MIN 3 0 1 ! BAD", "meant MAX 3 0 1 ! BAD", "meant 3 -1 0 1 ! BAD", "meant 3 4 0 1 ! BAD", "meant 3 MIN 0 1 ! BAD", "meant 3 MAX 0 1 ! BAD",
        "meant 0 0 0 1 ! NULL", "meant 2 3 0 1 ! NULL", "meant 3 0 0 1 ! CAST", "meant 3 1 0 1 ! CAST", "meant 3 2 0 1 ! CAST", "meant 3 3 0 1 ! 0", "meant 3 3 4 1 ! {0,2,4}", "meant 3 3 5 1 ! 0", "meant 3 3 6 1 ! INDEX", "meant 3 3 -1 1 ! INDEX",
        "meant 3 3 MIN 1 ! INDEX", "meant 3 3 MAX 1 ! INDEX", "meant 3 3 0 6 ! 0", "meant 3 3 1 6 ! INDEX", "meant 3 3 1 5 ! 0", "meant 3 3 2 5 ! INDEX", "meant 3 3 MAX 6 ! INDEX");
    edge(said, "text '5'", "sheet 0 0 0", "meant 0 0 0 1 ! INDEX", "sheet 0 0 24", "meant 0 0 23 1 ! 0", "meant 0 0 24 1 ! INDEX", "meant 0 0 18 6 ! 0", "meant 0 0 19 6 ! INDEX");
    edge(said, "meant 0 0 0 1 ! NULL", "sheet 0 1 1", "meant 0 0 0 1 ! CAST", "meant 0 1 1 1 ! INDEX", "meant 0 1 0 1 ! 0");
  }

  // ---- 24 film

  private static void films() {
    String said = "NUMBERS of BEST, an item each, their lowest bits, come to a SHEET likewise: how many.";
    for (int lane = 0; lane < 4; lane++) {
      edge(said, "sheet 1 " + lane + " 6", "text '5;s;6;s;7;s;8'", "film 1 " + lane + " 1 = 4", "meant 1 " + lane + " 1 4 ! {0,2,4}", holds(1, lane, 1, 5), holds(1, lane, 4, 8), holdsNot(1, lane, 0, 5), holdsNot(1, lane, 5, 8));
      // of LANE 0 the lowest 8 bits are left, of 1 the lowest 16
      edge(said, "sheet 0 " + lane + " 1", "say 127", "film 0 " + lane + " 0 = 1", "meant 0 " + lane + " 0 1 ! {0,2,4}", "say 128", "film 0 " + lane + " 0 = 1", "meant 0 " + lane + " 0 1 ! " + (lane == 0 ? "0" : "{0,2,4}"));
      edge(said, "sheet 0 " + lane + " 1", "say 256", "film 0 " + lane + " 0 = 1", "meant 0 " + lane + " 0 1 ! " + (lane == 0 ? "0" : "{0,2,4}"), "say 257", "film 0 " + lane + " 0 = 1", lane == 0 ? holds(0, lane, 0, 1) : holds(0, lane, 0, 257));
      edge(said, "sheet 0 " + lane + " 1", "say 32767", "film 0 " + lane + " 0 = 1", lane == 0 ? holdsNot(0, 0, 0, 32767) : holds(0, lane, 0, 32767), "say 32768", "film 0 " + lane + " 0 = 1", lane < 2 ? holdsNot(0, lane, 0, 32768) : holds(0, lane, 0, 32768));
      edge(said, "sheet 0 " + lane + " 1", "say 65537", "film 0 " + lane + " 0 = 1", lane < 2 ? holds(0, lane, 0, 1) : holds(0, lane, 0, 65537), "say 999990", "film 0 " + lane + " 0 = 1", lane < 2 ? holdsNot(0, lane, 0, 999990) : holds(0, lane, 0, 999990));
    }
    edge(said, row(0, 2, 1, 2, 3, 4), "text '5;s;6'", "film 0 2 0 = 2", "film 0 2 2 = 2", "film 0 2 3 ! INDEX", holds(0, 2, 3, 6), holds(0, 2, 2, 5), holds(0, 2, 1, 6));
    edge(said, row(0, 2, 1, 2, 3, 4), "text '5;s;6'", "slack 3", "image", "film 0 2 1 = 2", "count 10 ! 1", "undo = 0", holds(0, 2, 0, 1), holds(0, 2, 1, 5), holds(0, 2, 2, 6), holds(0, 2, 3, 4), "restore", holds(0, 2, 1, 5));
  }

  private static void filmRefused() {
    String said = "BAD; NONE: there is no BEST; NULL; CAST; INDEX.";
    edge(said, "text '5;s;6'", row(3, 3, 1, 2, 3), "film -1 3 0 ! BAD", "film 4 3 0 ! BAD", "film MIN 3 0 ! BAD", "film MAX 3 0 ! BAD", "film 3 -1 0 ! BAD", "film 3 4 0 ! BAD", "film 3 MIN 0 ! BAD", "film 3 MAX 0 ! BAD", "film 0 3 0 ! NULL", "film 2 0 9 ! NULL",
        "film 3 0 0 ! CAST", "film 3 2 9 ! CAST", "film 3 3 -1 ! INDEX", "film 3 3 2 ! INDEX", "film 3 3 3 ! INDEX", "film 3 3 MIN ! INDEX", "film 3 3 MAX ! INDEX", "film 3 3 1 = 2", "film 3 3 0 = 2");
    edge(said, "text '5;s;6'", "check 1", row(3, 3, 1, 2, 3), "film 3 3 0 ! NONE", "film 3 3 9 ! NONE", "film 3 0 0 ! NONE", "film 0 0 0 ! NONE", "film 4 0 0 ! BAD", "film 0 4 0 ! BAD", "check 0", "film 0 0 0 ! NULL", "film 3 0 0 ! CAST", "film 3 3 2 ! INDEX");
    edge(said, "film 0 0 0 ! NONE", "sheet 0 0 0", "film 0 0 0 ! NONE", "say 5", "film 0 0 0 ! INDEX", "sheet 0 0 1", "film 0 0 0 = 1", "film 0 0 1 ! INDEX", "sheet 0 0 24", "film 0 0 23 = 1", "film 0 0 24 ! INDEX");
  }

  // ---- 25 sheet, 26 drop

  private static void sheets() {
    String said = "A SHEET holds a new row of a LANE: n. BAD: also n above 24; SIZE: n below 0.";
    edge(said, "sheet -1 0 1 ! BAD", "sheet 4 0 1 ! BAD", "sheet MIN 0 1 ! BAD", "sheet MAX 0 1 ! BAD", "sheet 0 -1 1 ! BAD", "sheet 0 4 1 ! BAD", "sheet 0 MIN 1 ! BAD", "sheet 0 MAX 1 ! BAD", "sheet 0 0 25 ! BAD", "sheet 0 0 MAX ! BAD", "sheet 0 0 -1 ! SIZE", "sheet 0 0 MIN ! SIZE",
        "drop 0 ! NULL", "sheet 0 0 0 = 0", "drop 0 = 0", "sheet 3 3 24 = 24", "drop 3 = 24", "sheet 0 0 1 = 1", "drop 0 = 1", "sheet 0 0 23 = 23", "drop 0 = 23");
    for (int lane = 0; lane < 4; lane++) {
      String lanes = "0 bytes, 1 shorts, 2 ints, 3 longs (all with a sign), of 0 to 24 items";
      for (int sheet = 0; sheet < 4; sheet++) {
        for (int n : new int[] {0, 1, 23, 24}) {
          edge(lanes, "sheet " + sheet + " " + lane + " " + n + " = " + n, "item " + sheet + " " + lane + " " + (n - 1) + " 5 " + (n == 0 ? "! INDEX" : "= 1"), "item " + sheet + " " + lane + " " + n + " 5 ! INDEX",
              "item " + sheet + " " + (lane + 1) % 4 + " 0 5 ! CAST", "drop " + sheet + " = " + n);
        }
      }
    }
    // a new row: all that was there is gone, and what is refused leaves it there
    edge(said, row(0, 2, 5, 6, 7), "sheet 0 2 25 ! BAD", "sheet 0 2 -1 ! SIZE", holds(0, 2, 2, 7), "sheet 0 2 3 = 3", holdsNot(0, 2, 0, 5), holdsNot(0, 2, 1, 6), holdsNot(0, 2, 2, 7), "item 0 2 0 5", "sheet 0 2 2 = 2", "meant 0 2 2 1 ! INDEX", "sheet 0 2 24 = 24", holdsNot(0, 2, 0, 5));
    edge(said, row(0, 2, 5), row(1, 2, 6), "sheet 0 1 4 = 4", "meant 0 2 0 1 ! CAST", "meant 0 1 3 1 ! 0", holds(1, 2, 0, 6), "drop 1 = 1", "drop 0 = 4");
    edge("---- 3 sheets 0 .. 3: nothing (at first), or a row of a LANE", "drop -1 ! BAD", "drop 0 ! NULL", "drop 3 ! NULL", "drop 4 ! BAD", "sheet 0 0 1 = 1", "sheet 3 0 1 = 1", "sheet 4 0 1 ! BAD");
  }

  private static void drops() {
    String said = "A SHEET holds nothing: how many items it had. BAD; NULL.";
    edge(said, "drop MIN ! BAD", "drop -1 ! BAD", "drop 4 ! BAD", "drop MAX ! BAD", "drop 0 ! NULL", "drop 3 ! NULL", row(0, 0, 5, 6), "sheet 3 3 0", "drop 3 = 0", "drop 3 ! NULL", "drop 0 = 2", "drop 0 ! NULL", "item 0 0 0 5 ! NULL", "say 5", "film 0 0 0 ! NULL",
        "meant 0 0 0 1 ! NULL", "sheet 1 0 1", "copy 0 0 1 0 0 ! NULL", "copy 1 0 0 0 0 ! NULL", "sheet 0 0 2 = 2", holdsNot(0, 0, 0, 5), "sheet 2 1 24", "drop 2 = 24", "drop 1 = 1");
  }

  // ---- 27 item

  private static void items() {
    String said = "Item i of a SHEET, taken as a row of a LANE, becomes v, its lowest bits: 1. BAD; NULL; CAST; INDEX.";
    edge(said, row(3, 3, 1, 2), "item -1 3 0 5 ! BAD", "item 4 3 0 5 ! BAD", "item MIN 3 0 5 ! BAD", "item MAX 3 0 5 ! BAD", "item 3 -1 0 5 ! BAD", "item 3 4 0 5 ! BAD", "item 3 MIN 0 5 ! BAD", "item 3 MAX 0 5 ! BAD", "item 0 0 0 5 ! NULL", "item 2 3 9 5 ! NULL",
        "item 3 0 0 5 ! CAST", "item 3 2 9 5 ! CAST", "item 3 3 -1 5 ! INDEX", "item 3 3 2 5 ! INDEX", "item 3 3 MIN 5 ! INDEX", "item 3 3 MAX 5 ! INDEX", "item 3 3 0 5 = 1", "item 3 3 1 6 = 1", holds(3, 3, 0, 5), holds(3, 3, 1, 6));
    edge(said, "sheet 0 0 24", "item 0 0 0 5 = 1", "item 0 0 23 6 = 1", "item 0 0 24 5 ! INDEX", holds(0, 0, 0, 5), holds(0, 0, 23, 6), holdsNot(0, 0, 1, 5), holdsNot(0, 0, 22, 6), "sheet 0 0 0", "item 0 0 0 5 ! INDEX");
    long[] above = {256, 65536, 1L << 32};
    for (int lane = 0; lane < 4; lane++) {
      String lanes = "0 bytes, 1 shorts, 2 ints, 3 longs (all with a sign)";
      for (int wide = 0; wide < 3; wide++) {
        boolean cut = lane <= wide;
        for (long v : new long[] {5 + above[wide], 5 - above[wide], 5 + 3 * above[wide], Long.MIN_VALUE + 5}) {
          boolean cutThis = cut || lane < 3 && v == Long.MIN_VALUE + 5;
          edge(lanes, "sheet 0 " + lane + " 1", "item 0 " + lane + " 0 " + v + " = 1", cutThis ? holds(0, lane, 0, 5) : holdsNot(0, lane, 0, 5));
        }
      }
      int[] greatest = {127, 32767, 999990, 999990};
      edge(lanes, "sheet 0 " + lane + " 2", "item 0 " + lane + " 1 " + greatest[lane] + " = 1", holds(0, lane, 1, greatest[lane]), "item 0 " + lane + " 1 -1 = 1", holdsNot(0, lane, 1, greatest[lane]), "item 0 " + lane + " 1 0 = 1", holdsNot(0, lane, 1, 1));
      if (lane < 2) edge("(all with a sign)", "sheet 0 " + lane + " 1", "item 0 " + lane + " 0 " + (greatest[lane] + 1) + " = 1", holdsNot(0, lane, 0, greatest[lane] + 1), "item 0 " + lane + " 0 " + (2 * greatest[lane] + 1) + " = 1", holdsNot(0, lane, 0, 2 * greatest[lane] + 1));
    }
  }

  // ---- 28 copy

  private static void copies() {
    String said = "n items of a SHEET from i on come to another one (or the same) from j on, as if all were taken ahead: n.";
    String five = row(0, 2, 1, 2, 3, 4, 5);
    for (int i = 0; i < 5; i++) {
      for (int j = 0; j < 5; j++) {
        for (int n = 0; n <= 5 - Math.max(i, j); n++) copied(said, five, i, j, n);
      }
    }
    edge(said, five, "sheet 1 2 7", "copy 0 0 1 2 5 = 5", holdsNot(1, 2, 1, 1), holds(1, 2, 2, 1), holds(1, 2, 6, 5), holds(0, 2, 4, 5), "item 0 2 4 9", holds(1, 2, 6, 5), "item 1 2 2 8", holds(0, 2, 0, 1));
    for (int lane = 0; lane < 4; lane++) edge(said, row(0, lane, 5, 6, 7), row(1, lane, 1, 2, 3), "copy 0 1 1 0 2 = 2", holds(1, lane, 0, 6), holds(1, lane, 1, 7), holds(1, lane, 2, 3), holds(0, lane, 1, 6));
  }

  private static void copied(String said, String five, int i, int j, int n) {
    int[] due = {1, 2, 3, 4, 5};
    System.arraycopy(new int[] {1, 2, 3, 4, 5}, i, due, j, n);
    StringBuilder rows = new StringBuilder("copy 0 " + i + " 0 " + j + " " + n + " = " + n);
    for (int k = 0; k < 5; k++) rows.append("\n" + holds(0, 2, k, due[k]).replace("!", "="));
    edge(said, five, rows.toString());
  }

  private static void copyRefused() {
    String said = "BAD; NULL (either); CAST: of unlike LANES; INDEX (n below 0, too).";
    String rows = row(0, 2, 1, 2, 3) + "\n" + row(1, 2, 4, 5, 6, 7) + "\n" + row(2, 3, 8);
    edge(said, rows, "copy -1 0 1 0 1 ! BAD", "copy 4 0 1 0 1 ! BAD", "copy MIN 0 1 0 1 ! BAD", "copy MAX 0 1 0 1 ! BAD", "copy 0 0 -1 0 1 ! BAD", "copy 0 0 4 0 1 ! BAD", "copy 0 0 MIN 0 1 ! BAD", "copy 0 0 MAX 0 1 ! BAD", "copy 4 0 4 0 1 ! BAD", "copy 3 0 4 0 1 ! BAD");
    edge(said, rows, "copy 0 0 3 0 1 ! NULL", "copy 3 0 0 0 1 ! NULL", "copy 3 0 3 0 0 ! NULL", "copy 3 0 2 0 -1 ! NULL", "copy 2 0 3 9 1 ! NULL", "copy 0 0 2 0 1 ! CAST", "copy 2 0 0 0 1 ! CAST", "copy 0 0 2 0 0 ! CAST", "copy 0 0 2 0 -1 ! CAST");
    edge(said, rows, "copy 0 0 1 0 -1 ! INDEX", "copy 0 0 1 0 MIN ! INDEX", "copy 0 1 1 1 -1 ! INDEX", "copy 0 0 1 0 MAX ! INDEX", "copy 0 MAX 1 MAX MAX ! INDEX", "copy 0 3 1 4 -1 ! INDEX", "copy 0 0 1 0 4 ! INDEX", "copy 0 0 1 0 3 = 3", "copy 0 0 1 1 3 = 3");
    edge(said, rows, "copy 0 1 1 0 3 ! INDEX", "copy 0 1 1 0 2 = 2", "copy 0 3 1 0 1 ! INDEX", "copy 0 -1 1 0 1 ! INDEX", "copy 0 MIN 1 0 1 ! INDEX", "copy 0 MAX 1 0 1 ! INDEX", "copy 0 MAX 1 0 2 ! INDEX");
    edge(said, rows, "copy 0 0 1 2 3 ! INDEX", "copy 0 0 1 2 2 = 2", "copy 0 0 1 4 1 ! INDEX", "copy 0 0 1 -1 1 ! INDEX", "copy 0 0 1 MIN 1 ! INDEX", "copy 0 0 1 MAX 1 ! INDEX", "copy 0 0 1 MAX 2 ! INDEX");
    edge(said, "sheet 0 0 24", "sheet 1 0 24", "item 0 0 0 5", "item 0 0 23 6", "copy 0 0 1 0 25 ! INDEX", "copy 0 0 1 0 24 = 24", holds(1, 0, 0, 5), holds(1, 0, 23, 6), "copy 0 0 0 1 24 ! INDEX", "copy 0 0 0 1 23 = 23", holds(0, 0, 1, 5));
  }

  public static void main(String[] args) {
    meantRows();
    meantRefused();
    films();
    filmRefused();
    sheets();
    drops();
    items();
    copies();
    copyRefused();
    end();
  }
}
