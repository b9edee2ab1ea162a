/** Boundaries of ==== 2 and of the promises 16 to 22: best, taken, open, counted, likely, image, restore. */
public final class EdgesOfLooking extends Edges {
  /** Very many READINGS of like COST, so that the first of like ones matters. */
  private static final String SIXTY_FOUR = "text '1,2,3,4;s;1,2,3,4;s;1,2,3,4'";

  // ---- best, counted, next

  private static void bests() {
    String said = "of those that are SOUND the one of least COST, of like ones the first; none.";
    edge(said, "text '5:2,6:1,7:1'", "best 0 ! 6", "best -1 ! 1", "taken 0 ! 6");
    edge(said, "text '7:1,6:1,5:2'", "best 0 ! 7");
    edge(said, "text '5,4:1;s;5,6:1'", "check 2", "best 0 ! 5", "best 1 ! 6", "best -1 ! 1", "count 4 ! 3");
    edge(said, "text '4:1,5;s;5,6:1'", "check 2", "best 0 ! 4", "best 1 ! 5", "best -1 ! 1");
    edge(said, "text '5;s;5,6:9'", "check 2", "best 1 ! 6", "best -1 ! 9", "check 1", "best 1 ! 5", "check 4", "best 1 ! 6", "lose 2", "best 1 ! NONE");
    edge(said, "text '5:9,t:0'", "best 0 ! 5", "best -1 ! 9", "settle 0 29", "best 0 ! NONE", "best -1 ! NONE", "taken 0 ! NONE");
    edge(said, "hear 5 9", times(7, "hear 0 9"), "best -1 ! 72", "also 0 6 8", "best -1 ! 71", "best 0 ! 6");
    said = "READINGS come in order: by the CANDIDATE of SLOT 0, then of SLOT 1, and so on.";
    edge(said, "text '30,20;2,1'", "counted 0 1 ! 32", "counted 1 1 ! 31", "counted 2 1 ! 22", "counted 3 1 ! 21", "counted 4 1 ! NONE");
    edge(said, "text '1,2;s;1,2;s;5,6'", "counted 0 1 ! 5", "counted 1 1 ! 6", "counted 6 1 ! 5", "counted 7 1 ! 6", "counted 8 1 ! NONE");
    edge(said, "text '20;n;n;n;n;n;n;3,1,2'", "counted 0 1 ! 23", "counted 1 1 ! 21", "counted 2 1 ! 22");
  }

  private static void bestTells() {
    String said = "its COST (k -1), how many NUMBERS (k -2), the k-th; NONE: there is no BEST, no such NUMBER. BAD: k below -2.";
    edge(said, "text '1:1;s;2:2;s;3:3;s;4:4'", "best MIN ! BAD", "best -3 ! BAD", "best -2 ! 4", "best -1 ! 10", "best 0 ! 1", "best 3 ! 4", "best 4 ! NONE", "best MAX ! NONE");
    edge(said, "text '5'", "best -2 ! 1", "best -1 ! 0", "best 0 ! 5", "best 1 ! NONE", "text 't'", "best -3 ! BAD", "best -2 ! NONE", "best -1 ! NONE", "best 0 ! NONE", "best MAX ! NONE");
    edge("The WORD of a SLOT by BEST; NONE. BAD.", "taken 0 ! BAD", "text '20,n:1;n,1:2;s;n:3,5'", "taken -1 ! BAD", "taken MIN ! BAD", "taken 0 ! 20", "taken 1 ! 0", "taken 2 ! 31", "taken 3 ! 5", "taken 4 ! BAD", "taken MAX ! BAD",
        "check 1", "taken 0 ! NONE", "taken 3 ! NONE", "taken 4 ! BAD", "taken -1 ! BAD");
    edge("The WORD of a SLOT by BEST; NONE. BAD.", times(7, "hear 0 0"), "hear 9 0", "taken 7 ! 9", "taken 0 ! 0", "taken 8 ! BAD");
  }

  private static void countedOnes() {
    String said = "COUNTED are those that are SOUND, of COST no more than that of BEST and SLACK.";
    edge(said, "text '1:3,2:4,3:9'", "count 5 ! 1", "slack 1", "count 5 ! 2", "slack 5", "count 5 ! 2", "slack 6", "count 5 ! 3", "slack 20", "count 5 ! 3");
    edge(said, "text '1,2:9;s;1,2:9;s;1,2:2,3:3'", "count 4 ! 12", "slack 20", "count 5 ! 11", "slack 19", "count 5 ! 10", "slack 18", "count 5 ! 10", "slack 17", "count 5 ! 9", "slack 0", "count 5 ! 1");
    edge(said, "text '5,6:1,t;s;5:1,6,7:3'", "check 1", "count 5 ! 2", "counted 0 0 ! 1", "counted 1 0 ! 1", "counted 2 0 ! NONE");
    edge(said, "text 't,h'", "slack 20", "count 5 ! 0", "counted 0 0 ! NONE", "open 0 ! {}");
    said = "its COST (what 0), its last NUMBER (1); NONE: not so many. BAD.";
    edge(said, "counted 0 0 ! NONE", "text '5:1,6:3'", "counted -1 0 ! BAD", "counted MIN 0 ! BAD", "counted 0 -1 ! BAD", "counted 0 2 ! BAD", "counted 0 MIN ! BAD", "counted 0 MAX ! BAD", "counted 0 0 ! 1", "counted 0 1 ! 5", "counted 1 0 ! NONE", "counted 1 2 ! BAD",
        "slack 2", "counted 1 0 ! 3", "counted 1 1 ! 6", "counted 2 0 ! NONE", "counted 2 1 ! NONE", "counted MAX 0 ! NONE");
    edge(said, SIXTY_FOUR, "counted 0 1 ! 1", "counted 3 1 ! 4", "counted 59 1 ! 4", "counted 60 1 ! 1", "counted 63 1 ! 4", "counted 63 0 ! 0", "counted 64 1 ! NONE", "counted 64 0 ! NONE");
    edge(said, SIXTY_FOUR.replace("4'", "4:2'"), "count 5 ! 48", "slack 2", "counted 59 0 ! 2", "counted 60 0 ! 0", "counted 62 0 ! 0", "counted 63 0 ! 2", "counted 64 0 ! NONE");
    // the first three are not counted, the others are
    edge(said, "text '4:1,1,2,3;s;4:1,1,2,3;s;4:1,3:1,2:1,1'", "slack 2", "count 5 ! 61", "counted 0 0 ! 2", "counted 0 1 ! 1", "counted 59 1 ! 2", "counted 60 1 ! 1", "counted 60 0 ! 0", "counted 61 1 ! NONE");
    edge(said, "text '4,1,2,3;s;4,1,2,3;s;4,3,2,1'", "check 3", "slack 1", "also 1 0 0", "hear 0 0", "hear 0 0", "also 6 31 0", "count 5 ! 6", "counted 5 1 ! 4", "counted 6 1 ! NONE");
    said = "WORDS (a set) of a SLOT by those COUNTED. BAD.";
    edge(said, "text '5,6,7,8;n;s;9,10,11,12;s;1,2,3,4;n;n'", "open 0 ! {5,6,7,8}", "open 3 ! {9,10,11,12}", "open 5 ! {1,2,3,4}", "text '20;n;n;n;n;n;n;1,2,3,4'", "open 7 ! {1,2,3,4}", "open 6 ! {0}");
    edge(said, "open 0 ! BAD", "text '5:1,6:3,t;n'", "open -1 ! BAD", "open MIN ! BAD", "open 0 ! {5}", "open 1 ! {0}", "open 2 ! BAD", "open MAX ! BAD", "slack 1", "open 0 ! {5}", "slack 2", "open 0 ! {5,6}", "check 1", "open 0 ! {}", "open 2 ! BAD");
  }

  private static void nextOnes() {
    String said = "NEXT: the least COST of those that are SOUND and tell other NUMBERS than BEST; none.";
    edge(said, "count 8 ! NONE", "text '5'", "count 8 ! NONE", "text '5:3,6:3'", "count 8 ! 3", "text '5,6:9'", "count 8 ! 9", "text 't'", "count 8 ! NONE");
    edge(said, "text '5,n:1;n,5:1'", "count 4 ! 2", "count 8 ! NONE", "also 1 6 9", "count 8 ! 10");
    edge(said, "text '20;s:3,n;6'", "best 0 ! 26", "count 8 ! 3", "text '20;s,n:3;6'", "best 0 ! 20", "count 8 ! 3");
    edge(said, "text '5;n,s:2;n,6:1'", "best -2 ! 1", "count 8 ! 3", "text '5;n:2,s;n:3,6'", "best -2 ! 2", "count 8 ! 5");
    edge(said, "text '5,6:4,7:2;s;5,6:1,7:9'", "check 1", "count 8 ! 5", "check 2", "best 1 ! 6", "count 8 ! 9");
    edge(said, "text '1,2:9;s;1,2:9;s;1,2:9;s;3:8'", "check 1", "best -1 ! 8", "count 8 ! NONE", "check 0", "text '1:1,2:9;n:9;n:9;n:9;n:9;n:9;n:9;n:9'", "count 8 ! 72");
  }

  // ---- look, questions, likely, spoilt

  private static void looks() {
    String said = "the most that have one WORD there are fewest; of like ones the first; none: there is none that parts them.";
    edge(said, "count 6 ! NONE", "text '5'", "count 6 ! NONE", "text '5,6:1'", "count 6 ! NONE", "slack 1", "count 6 ! 0", "text 't,h'", "count 6 ! NONE");
    edge(said, "text '20,30;1,2'", "count 6 ! 0", "text '20,30;1,2,3'", "count 6 ! 1", "text '20,30,40;1,2,3'", "count 6 ! 0", "text '20,30,40;1,2'", "count 6 ! 0");
    edge(said, "text '20;n;n;n;n;n;n;1,2'", "count 6 ! 7", "text '5;n,h'", "count 6 ! 1", "text 'n;n;5,6,7,8;n'", "count 6 ! 2");
    edge(said, "text '20,30:1;1:1,2:2,3'", "slack 1", "count 5 ! 3", "count 6 ! 0", "text '20,30:1;1:1,2:1,3'", "count 5 ! 4", "count 6 ! 1");
    edge(said, SIXTY_FOUR, "count 6 ! 0", "settle 0 2", "count 6 ! 2", "settle 2 2", "count 6 ! 4", "settle 4 2", "count 6 ! NONE");
  }

  private static void questions() {
    String said = "none: no one is COUNTED, or more than 60 are.";
    edge(said, "count 7 ! NONE", "text 't'", "count 7 ! NONE", "text '5;s;6'", "check 1", "count 7 ! NONE", "check 0", "count 7 ! 0");
    edge(said, "text '1,2,3,4:1;s;1,2,3,4:1;s;1:1,2:1,3:1,4:1'", "slack 1", "count 5 ! 60", "count 6 ! 4", "count 7 ! 3");
    edge(said, "text '1,2,3,4:1;s;1,2,3,4:1;s;1,2:1,3:1,4:1'", "slack 2", "count 5 ! 61", "count 6 ! 0", "count 7 ! NONE");
    edge(said, SIXTY_FOUR, "count 5 ! 64", "count 7 ! NONE", "check 2", "count 5 ! 4", "count 7 ! 2", "check 0", "count 7 ! NONE");
    said = "how many there must be at most, whichever of the COUNTED ones is true";
    edge(said, "text '5'", "count 7 ! 0", "text '5,6'", "count 7 ! 1", "text '5,6,7,8'", "count 7 ! 1", "text '20,30;1,2'", "count 7 ! 2");
    edge(said, "text '3,1:1,2:1;s;1,2:1'", "slack 1", "count 5 ! 4", "count 6 ! 0", "count 7 ! 2");
    edge(said, "text '1,2:1;s;1,2:1;s;1,2:1;s;1,2:1'", "slack 1", "count 5 ! 5", "count 6 ! 0", "count 7 ! 4");
    said = "till all that are left tell the same NUMBERS, or LOOK is none";
    edge(said, "text 'n,5;n,5'", "count 5 ! 2", "count 6 ! 0", "count 7 ! 0", "text 'n,5;n,5;n,5'", "count 5 ! 3", "count 6 ! 0", "count 7 ! 0");
    edge(said, "text 'n,5;n,5,6'", "count 5 ! 3", "count 6 ! 1", "count 7 ! 1", "text '1,2;s;n,5;n,5'", "count 5 ! 4", "count 6 ! 0", "count 7 ! 1");
    // the same last number is not the same numbers, nor is a number more
    edge(said, "text '1,2;s;5'", "count 7 ! 1", "text '5;n,s;n,5'", "count 5 ! 2", "count 7 ! 1");
    edge(said, "text '1,2;s;3,4'", "count 7 ! 2", "text 'n,5;n,5'", "count 5 ! 2", "count 7 ! 0");
  }

  private static void fraction(String said, String text, int kind, int v, long above, long below) {
    edge(said, "text '" + text + "'", kind == 0 ? "" : "check " + kind, "likely " + v + " 0 ! " + above, "likely " + v + " 1 ! " + below);
  }

  private static void likelyOnes() {
    String said = "LIKELY (v 0 .. 999999): above (what 0), below (1); NONE. BAD.";
    edge(said, "likely 0 0 ! NONE", "likely 0 1 ! NONE", "text '5'", "likely -1 0 ! BAD", "likely 0 0 ! 0", "likely 0 1 ! 1", "likely 999999 0 ! 0", "likely 999999 1 ! 1", "likely 1000000 0 ! BAD", "likely MIN 0 ! BAD", "likely MAX 0 ! BAD",
        "likely 5 -1 ! BAD", "likely 5 2 ! BAD", "likely 5 MIN ! BAD", "likely 5 MAX ! BAD", "likely 5 0 ! 1", "likely 5 1 ! 1", "likely 0 0 ! 0", "likely 0 1 ! 1", "likely 5 0 ! 1", "likely 6 0 ! 0", "check 1", "likely 5 0 ! NONE", "likely 5 1 ! NONE", "likely -1 0 ! BAD", "likely 5 2 ! BAD");
    said = "a READING weighs as much as 10 less the COST of each of its CANDIDATES, multiplied";
    fraction(said, "5:9,6:0", 0, 5, 1, 11);
    fraction(said, "5:9,6:0", 0, 6, 10, 11);
    fraction(said, "5:3,6:4", 0, 6, 6, 13);
    fraction(said, "5:9", 0, 5, 1, 1);
    fraction(said, "5:9;n:9;n:9;n:9;n:9;n:9;n:9;n:9", 0, 5, 1, 1);
    fraction(said, "5:9;n:9;n:9;n:9;n:9;n:9;n:9;n:9", 0, 6, 0, 1);
    fraction(said, "5:9,6:8;n:9", 0, 6, 2, 3);
    fraction(said, "5:3,6:4;s;1:1,2:7", 0, 2, 1, 4);
    fraction(said, "9;h;90,80:9;9,8:9;t;9,8:9;h,n:9;90", 0, 999990, 1000, 1331);
    said = "how likely the last NUMBER is v, of all that are SOUND";
    fraction(said, "5;s;6", 0, 5, 0, 1);
    fraction(said, "5;s;6", 0, 6, 1, 1);
    fraction(said, "5,6;s;5:1,6:2", 1, 5, 9, 17);
    fraction(said, "5,6;s;5:1,6:2", 0, 5, 9, 17);
    fraction(said, "5,6;s;5:1,6:2", 2, 6, 1, 1);
    fraction(said, "5,6;s;5:1,6:2", 2, 5, 0, 1);
    fraction(said, "5,n:5;n,5:5", 0, 5, 1, 1);
    said = "a fraction in lowest terms; none: there is none.";
    fraction(said, "5:5,6:5", 0, 5, 1, 2);
    fraction(said, "5:0,6:5,7:5", 0, 5, 1, 2);
    fraction(said, "5:0,6:5,7:5", 0, 7, 1, 4);
    fraction(said, "5:0,6:5,7:5", 0, 8, 0, 1);
    fraction(said, "5:4,6:1,7:7", 0, 5, 1, 3);
    fraction(said, "t", 0, 5, -4, -4);
    fraction(said, "5;s;6", 1, 6, -4, -4);
  }

  private static void greatFractions() {
    of("a READING weighs as much as 10 less the COST of each of its CANDIDATES, multiplied");
    // 2 * 2 * 2 ways for 5 and 6, at 10 and 7 each; the last slot tells 1 by 9, 2 by 7: all others cancel out
    HeardNumbers x = after("text '5,6:3;s;5,6:3;s;5,6:3;s;1:1,2:3;n'");
    is("likely(1, 0)", x.likely(1, 0), 9);
    is("likely(1, 1)", x.likely(1, 1), 16);
    // 5 5 5 and 15: 1000 * 9; 6 5 5 and 16: 7 * 100 * 7 three times; 18 by 343 * 3
    x = after("text '5,6:3;s;5,6:3;s;5,6:3;s;15:1,16:3,18:7;n'", "check 1");
    long all = 1000 * 9 + 3 * 700 * 7 + 343 * 3;
    is("likely(16, 0)", x.likely(16, 0), 3 * 700 * 7 / 3);
    is("likely(16, 1)", x.likely(16, 1), all / 3);
    is("likely(18, 0)", x.likely(18, 0), 343);
    is("likely(18, 1)", x.likely(18, 1), all / 3);
  }

  private static void spoilt() {
    String said = "of BEST, a SLOT alone taken by another CANDIDATE of it: how many such READINGS are SAID, but not SOUND.";
    edge(said, "count 9 ! NONE", "text '5'", "count 9 ! 0", "text 't'", "count 9 ! NONE", "text '5,6,7,8'", "count 9 ! 0", "text '5,t,h,s'", "count 9 ! 0");
    edge(said, "text '5,6;s;5,6'", "check 1", "count 9 ! 2", "check 2", "count 9 ! 2", "check 0", "count 9 ! 0");
    edge(said, "text '5,6,t;s,h;5,6'", "check 1", "count 9 ! 3", "check 3", "count 9 ! 3", "check 2", "count 9 ! 2");
    edge(said, "text '5;s,n;6'", "check 1", "count 9 ! NONE", "text '20;s,n:1;1:1,20'", "count 9 ! 1", "settle 2 20", "count 9 ! 0");
    edge(said, "text '5;s;5,6,7,8;n;n;n;n;n'", "check 1", "count 9 ! 3", "check 2", "count 9 ! 1");
    edge(said, "text '1,2,3,4;s;1,2,3,4;s;1,2,3,4;s;3,4,5,6'", "check 1", "best -1 ! 0", "count 9 ! 12");
  }

  // ---- image, restore

  private static void images() {
    String state = "sheet 0 1 2\nitem 0 1 1 7\nsheet 3 3 0\ntext '5:1,6:2;s;7,8:3'\nseed 55\ncheck 2\nslack 3\nhear 0 1\nalso 1 0 5\ntype 54\n";
    String much = "hear 1 1\nlose 0\nalso 0 9 9\nsettle 0 9\ncheck 4\nslack 20\nstorm 9\nseed 3\n";
    edge("All but SHEETS, THE TAPE is kept as an IMAGE (what may be UNDONE, too): 1.", "restore ! NONE", "image = 1", "restore = 1", "image = 1", "count 0 ! 0", "hear 5 0", "restore = 1", "count 0 ! 0", "count 10 ! 0");
    String said = "All is as it was then: 1.";
    same(said, state + "image", state + "image\nimage");
    same(said, state + "image", state + "image\nrestore");
    same(said, state + "image", state + "image\n" + much + "restore");
    same(said, state + "image", state + "image\n" + much + "say 5\nrestore");
    same(said, state + "image", state + "image\n" + much + "say 5\n" + "restore\nsay 6\nrestore");
    same(said, state + "image", state + "image\nundo\nundo\nundo\nundo\nrestore");
    same(said, state + "image", state + "image\nundo\nundo\nslack 9\nstorm 40\nrestore");
    same(said, state + "storm 12\nimage", state + "storm 12\nimage\nundo\nundo\nundo\nundo\nstorm 3\nslack 1\nrestore");
    same(said, state + "storm 12\nimage", state + "storm 12\nimage\n" + times(11, "storm 1") + "\nrestore");
    same(said, "image", "image\n" + "text '5'\ncheck 3\nslack 4\nseed 5\nstorm 3\nrestore");
    same(said, state + much + "image", state + "image\n" + much + "image");
    same(said, state + much + "image", state + "image\n" + much + "image\nsay 5\nstorm 11\nrestore");
    said = "All but SHEETS, THE TAPE is kept as an IMAGE";
    String sheets = "sheet 1 0 2\nitem 1 0 0 3\nitem 0 1 0 4\ndrop 3\ntype 53\n";
    same(said, state + "image\n" + sheets, state + "image\n" + much + sheets + "restore");
    same(said, state + "image\n" + sheets + "words", state + "image\n" + sheets.replace("type 53\n", "") + much + "type 53\nrestore\nwords");
    edge(said, state, "image", "words = 1", "best 0 ! 6", "type 53 = 1", "restore = 1", "best 0 ! 5", "type 53 = 2");
    edge("NONE: there is none.", "restore ! NONE", "hear 5 0", "restore ! NONE", "say 6", "undo ! NONE", "restore ! NONE", "image", "restore = 1");
    edge("(what may be UNDONE, too)", times(8, "hear 5 0"), "slack 1", "count 10 ! 8", "image", times(8, "undo"), "undo ! NONE", "restore = 1", "count 10 ! 8", "undo = 7", "count 2 ! 0", "undo = 6", "count 0 ! 7", times(6, "undo"), "count 0 ! 1", "undo ! NONE");
  }

  /** Each call that looks, where there is something to be seen; the sign ! looks whether something changed. */
  private static void nothingIsChanged() {
    String state = "sheet 0 2 4\nitem 0 2 0 5\nitem 0 2 1 6\ntext '5,6:2,n:3;s,h:4;6,5:1,n:2;n,s'\nseed 9\nslack 4\ncheck 2\nimage\nslack 5\ntype 57\n";
    String said = "(Nothing is changed.)";
    for (int what = 0; what < 11; what++) {
      HeardNumbers x = after(state);
      edge(said, state, "count " + what + " ! " + x.count(what));
    }
    edge(said, state, "best -2 ! 2", "best -1 ! 0", "best 0 ! 5", "taken 0 ! 5", "open 0 ! {5}", "open 1 ! {28,31}", "counted 0 0 ! 0", "counted 0 1 ! 6", "counted 99 0 ! NONE", "meant 0 2 0 2 ! {0,2,4}", "slot 0 -1 0 ! 3");
    String asked = "count 3\ncount 4\ncount 5\ncount 6\ncount 7\ncount 8\ncount 9\nbest 0\ntaken 0\nopen 0\ncounted 0 1\nlikely 6 0\nlikely 6 1\nmeant 0 2 0 2\n";
    for (String done : new String[] {"hear 0 1", "hear 31 0", "also 0 7 0", "lose 0", "lose 3", "settle 0 6", "settle 2 5", "check 1", "check 0", "slack 0", "slack 20", "storm 1", "storm 5", "undo", "restore", "say 25", "text ''", "text '5,6;7'", "seed 6", "image"}) {
      String typed = done.startsWith("text") ? "words\n" : "";
      same(said, state + typed + done, state + typed + asked + done);
    }
    HeardNumbers x = after(state);
    edge(said, state, "likely 6 0 ! " + x.likely(6, 0), "likely 6 1 ! " + x.likely(6, 1), "likely 7 0 ! 0");
  }

  public static void main(String[] args) {
    bests();
    bestTells();
    countedOnes();
    nextOnes();
    looks();
    questions();
    likelyOnes();
    greatFractions();
    spoilt();
    images();
    nothingIsChanged();
    end();
  }
}
