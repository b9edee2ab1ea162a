/** Boundaries that "What it is" and the head of "Terms" name: calls, the order of answers below 0, refusals. */
public final class EdgesOfTerms extends Edges {
  /** All there is: 8 SLOTS, a full one, 8 that may be UNDONE, a tape, an IMAGE, SHEETS; sheet 2 is nothing. */
  static final String RICH = "sheet 0 0 3\nitem 0 0 0 1\nitem 0 0 1 2\nitem 0 0 2 3\nsheet 1 1 24\nitem 1 1 23 9\nsheet 3 3 0\n"
      + "text '5:1,6,7:2,8:3;s;6,9:1;n:1;n:2;n;n'\nseed 77\ncheck 4\nimage\nslack 1\ncheck 2\nhear 0 3\nalso 1 0 4\nalso 3 1 9\nslack 2\n"
      + "lose 5\nhear 0 1\nsettle 3 0\ntype 57\ntype 44";
  private static final String TWO = "text '5;s;6'";

  private static void calls() {
    String said = "An object is used for at most 512 calls after it has been made; what later calls answer is free.";
    String turn = "slack 1 = 0\ncheck 1 = 0\nundo\nslack 0 = 1\nhear 5 1\nalso 1 6 2\nsettle 1 6 = 1\nlose 1 = 1";
    edge(said, "text '5'", times(63, turn), "best 0 = 5", "slack 20 = 0", "check 4 = 0", "hear 9 9 = 2", "lose 0 = 1", "best -1 = 9");
    of(said);
    HeardNumbers x = after(RICH);
    for (int i = 0; i < 3000; i++) anyCall(x, i);
    dearestCalls();
  }

  /** What is answered is free behind the 512th call, but no call may throw. */
  private static void anyCall(HeardNumbers x, int i) {
    int v = i * 7919 % 37 - 4;
    x.type(32 + i % 95);
    if (i % 50 == 0) x.words();
    x.hear(v, i % 11);
    x.also(i % 9, v, i % 10);
    if (i % 5 == 0) x.lose(i % 9);
    if (i % 7 == 0) x.settle(i % 9, v);
    x.check(i % 6);
    x.slack(i % 22);
    x.storm(i % 42);
    if (i % 3 == 0) x.undo();
    x.count(i % 12);
    x.counted(i % 80, i % 2);
    x.film(i % 4, i % 3, i % 25 - 1);
  }

  /** 512 calls that ask for all there is to be found in as many READINGS as there can be. */
  private static void dearestCalls() {
    HeardNumbers x = new HeardNumbers();
    // NOISE stands in each SLOT, so that very many READINGS are SAID
    for (int i = 0; i < 8; i++) {
      x.hear(0, 0);
      x.also(i, i % 3 == 0 ? 20 : i % 3 == 1 ? 5 : 31, i % 2);
      x.also(i, i % 3 == 0 ? 6 : i % 3 == 1 ? 28 : 29, 1);
      x.also(i, i % 3 == 0 ? 31 : i % 3 == 1 ? 31 : 7, 2);
    }
    x.sheet(0, 2, 3);
    for (int round = 0; round < 70; round++) {
      x.slack(round % 20 + 1);
      is("count(5), some are counted", x.count(5) > 0 ? 1 : 0, 1);
      x.count(7);
      x.counted(x.count(5) - 1, 1);
      x.likely(round, 1);
      x.meant(0, 2, 0, 2);
    }
  }

  private static void badAheadOfAll() {
    String said = "of several BAD ahead of all others";
    edge(said, times(120, "type 53"), "type 31 ! BAD", "type 127 ! BAD", "type 53 ! FULL");
    edge(said, "text '5,6'", "slot 1 9 0 ! BAD", "slot 0 9 2 ! BAD", "slot 0 9 -1 ! BAD", "slot 0 9 0 ! NONE");
    edge(said, times(8, "hear 5 0"), "hear 32 0 ! BAD", "hear 5 10 ! BAD", "hear -1 0 ! BAD", "hear 5 -1 ! BAD", "hear 5 0 ! FULL");
    edge(said, "text '5,6,7,8'", "also 0 5 10 ! BAD", "also 0 5 -1 ! BAD", "also 0 9 10 ! BAD", "also 0 32 0 ! BAD", "also 1 5 0 ! BAD");
    edge(said, "text '5'", "settle 0 32 ! BAD", "settle 0 -1 ! BAD", "settle 1 5 ! BAD", "settle -1 5 ! BAD", "settle 0 5 ! NOT");
    edge(said, "best -3 ! BAD", "best -2 ! NONE", "taken 0 ! BAD", "counted -1 0 ! BAD", "counted 0 2 ! BAD", "counted 0 0 ! NONE",
        "likely -1 0 ! BAD", "likely 1000000 0 ! BAD", "likely 0 2 ! BAD", "likely 0 -1 ! BAD", "likely 0 0 ! NONE");
    edge(said, "text 't'", "taken 0 ! NONE", "taken 1 ! BAD", "taken -1 ! BAD");
    edge(said, "meant 4 0 0 1 ! BAD", "meant 0 4 0 1 ! BAD", "meant 0 0 -1 0 ! BAD", "meant 0 0 -1 7 ! BAD", "meant 0 0 -1 1 ! NULL");
    edge(said, "sheet 0 0 2", "meant 0 4 0 1 ! BAD", "meant 0 1 0 0 ! BAD", "meant 0 1 9 7 ! BAD", "meant 0 0 9 0 ! BAD", "meant 0 0 9 7 ! BAD");
    edge(said, "film 4 0 0 ! BAD", "film -1 0 0 ! BAD", "film 0 4 0 ! BAD", "film 0 -1 0 ! BAD", "film 0 0 -1 ! NONE");
    edge(said, "sheet 4 0 -1 ! BAD", "sheet -1 0 -1 ! BAD", "sheet 0 4 -1 ! BAD", "sheet 0 -1 -1 ! BAD", "sheet 0 0 -1 ! SIZE");
    edge(said, "item 4 0 -1 5 ! BAD", "item -1 0 -1 5 ! BAD", "item 0 4 -1 5 ! BAD", "item 0 -1 -1 5 ! BAD", "item 0 0 -1 5 ! NULL");
    edge(said, "copy 4 -1 0 -1 -1 ! BAD", "copy -1 -1 0 -1 -1 ! BAD", "copy 0 -1 4 -1 -1 ! BAD", "copy 0 -1 -1 -1 -1 ! BAD", "copy 0 -1 0 -1 -1 ! NULL");
  }

  private static void firstThatACallNames() {
    String said = "then the first that a call names";
    edge(said, "text '5,6,7,8'", "also 0 8 0 ! NOT", "also 0 5 9 ! NOT", "also 0 9 0 ! FULL");
    edge(said, "sheet 0 0 0", "film 1 0 0 ! NONE", "film 0 1 0 ! NONE", "film 0 0 0 ! NONE", "film 0 0 -1 ! NONE");
    edge(said, "text '5;s;6'", "check 1", "sheet 0 0 0", "film 1 0 0 ! NONE", "film 0 1 0 ! NONE", "film 0 0 -1 ! NONE");
  }

  private static void whatTheMachineFinds() {
    String said = "(NULL, CAST, INDEX, SIZE in this order";
    for (String i : new String[] {"-1", "0", "1", "25", "MIN", "MAX"}) {
      edge(said, TWO, "sheet 1 1 1", "meant 0 0 " + i + " 2 ! NULL", "meant 1 0 " + i + " 2 ! CAST", "meant 1 1 " + i + " 2 ! INDEX");
      edge(said, TWO, "sheet 1 1 1", "film 0 0 " + i + " ! NULL", "film 1 0 " + i + " ! CAST", "film 1 1 " + i + " ! INDEX");
      edge(said, "sheet 1 1 0", "item 0 0 " + i + " 5 ! NULL", "item 1 0 " + i + " 5 ! CAST", "item 1 1 " + i + " 5 ! INDEX");
      edge(said, "sheet 1 1 1", "sheet 2 2 1", "copy 0 " + i + " 1 " + i + " -1 ! NULL", "copy 1 " + i + " 0 " + i + " 9 ! NULL",
          "copy 0 0 0 " + i + " 0 ! NULL", "copy 1 " + i + " 2 " + i + " -1 ! CAST", "copy 2 " + i + " 1 " + i + " 9 ! CAST",
          "copy 1 " + i + " 1 " + i + " 2 ! INDEX");
    }
  }

  private static void indexWhereNoItemIsTaken() {
    String said = "INDEX also where no item is taken, if i, j is below 0, or above how many there are";
    String rows = "sheet 0 2 3\nitem 0 2 0 1\nitem 0 2 2 3\nsheet 1 2 5\nsheet 2 2 0\nsheet 3 2 24";
    edge(said, rows, "copy 0 -1 1 0 0 ! INDEX", "copy 0 0 1 0 0 ! 0", "copy 0 3 1 0 0 ! 0", "copy 0 4 1 0 0 ! INDEX", "copy 0 MIN 1 0 0 ! INDEX", "copy 0 MAX 1 0 0 ! INDEX");
    edge(said, rows, "copy 0 0 1 -1 0 ! INDEX", "copy 0 0 1 5 0 ! 0", "copy 0 0 1 6 0 ! INDEX", "copy 0 0 1 MIN 0 ! INDEX", "copy 0 0 1 MAX 0 ! INDEX");
    edge(said, rows, "copy 2 0 2 0 0 ! 0", "copy 2 1 2 0 0 ! INDEX", "copy 2 0 2 1 0 ! INDEX", "copy 2 -1 2 0 0 ! INDEX", "copy 2 0 2 -1 0 ! INDEX");
    edge(said, rows, "copy 3 24 3 24 0 ! 0", "copy 3 25 3 24 0 ! INDEX", "copy 3 24 3 25 0 ! INDEX", "copy 0 3 2 0 0 ! 0", "copy 2 0 0 3 0 ! 0");
  }

  private static void refusedChangesNothing() {
    String said = "What is refused changes nothing, but as told.";
    edge(said, RICH, "count 10 = 8", "count 0 = 8", "best -1 = 8", "best 0 = 5", "best 1 = 6", "slot 0 -1 0 = 4");
    String[] calls = {"type 31 ! BAD", "type 127 ! BAD", "say 0 ! BAD", "say -1 ! BAD", "say 1000000 ! BAD", "say 777777 ! FULL", "say 999999 ! FULL",
        "slot 8 0 0 ! BAD", "slot -1 0 0 ! BAD", "slot 0 -2 0 ! BAD", "slot 0 0 2 ! BAD", "slot 0 4 0 ! NONE", "count -1 ! BAD", "count 11 ! BAD",
        "hear 32 0 ! BAD", "hear -1 0 ! BAD", "hear 5 10 ! BAD", "hear 5 -1 ! BAD", "hear 5 0 ! FULL",
        "also 8 5 0 ! BAD", "also -1 5 0 ! BAD", "also 3 32 0 ! BAD", "also 3 -1 0 ! BAD", "also 3 9 10 ! BAD", "also 3 9 -1 ! BAD",
        "also 3 0 5 ! NOT", "also 0 5 0 ! NOT", "also 0 9 0 ! FULL", "lose 8 ! BAD", "lose -1 ! BAD",
        "settle 8 0 ! BAD", "settle -1 0 ! BAD", "settle 0 32 ! BAD", "settle 0 -1 ! BAD", "settle 0 9 ! NOT", "settle 3 0 ! NOT",
        "check -1 ! BAD", "check 5 ! BAD", "check 2 ! NOT", "slack -1 ! BAD", "slack 21 ! BAD", "slack 2 ! NOT",
        "storm 0 ! BAD", "storm -1 ! BAD", "storm 41 ! BAD", "seed -1 ! BAD", "seed MIN ! BAD"};
    for (String call : calls) edge(said, RICH, call);
    edge(said, "check 1", "undo", "undo ! NONE", "restore ! NONE", "sheet 0 0 2", "undo ! NONE", "restore ! NONE");
    sheetsRefused(said);
    faultsChangeNothing();
  }

  private static void sheetsRefused(String said) {
    String[] calls = {"meant 4 0 0 1 ! BAD", "meant 0 4 0 1 ! BAD", "meant 0 0 0 7 ! BAD", "meant 0 0 0 0 ! BAD", "meant 2 0 0 1 ! NULL", "meant 0 1 0 1 ! CAST",
        "meant 0 0 3 1 ! INDEX", "film 4 0 0 ! BAD", "film 0 4 0 ! BAD", "film 2 0 0 ! NULL", "film 0 1 0 ! CAST", "film 0 0 2 ! INDEX", "film 1 1 23 ! INDEX",
        "film 3 3 0 ! INDEX", "film 0 0 -1 ! INDEX", "sheet 4 0 0 ! BAD", "sheet 0 4 0 ! BAD", "sheet 0 -1 0 ! BAD", "sheet 0 0 25 ! BAD", "sheet 0 0 -1 ! SIZE", "sheet 2 0 -1 ! SIZE",
        "drop 4 ! BAD", "drop -1 ! BAD", "drop 2 ! NULL", "item 4 0 0 5 ! BAD", "item 0 4 0 5 ! BAD", "item 2 0 0 5 ! NULL", "item 0 1 0 5 ! CAST",
        "item 0 0 3 5 ! INDEX", "item 0 0 -1 5 ! INDEX", "item 3 3 0 5 ! INDEX", "copy 4 0 0 0 1 ! BAD", "copy 0 0 4 0 1 ! BAD", "copy 2 0 0 0 1 ! NULL",
        "copy 0 0 2 0 1 ! NULL", "copy 0 0 1 0 1 ! CAST", "copy 0 0 0 1 3 ! INDEX", "copy 0 1 0 0 3 ! INDEX", "copy 0 0 0 1 -1 ! INDEX", "copy 1 22 1 0 3 ! INDEX"};
    for (String call : calls) edge(said, RICH, call);
    edge(said, "text 't;5;s'", "sheet 0 0 3", "item 0 0 0 1", "film 0 0 0 ! NONE");
  }

  /** The tape goes by a FAULT; so one row types what the other does not. */
  private static void faultsChangeNothing() {
    String emptied = RICH.replace("\ntype 57\ntype 44", "");
    for (String text : new String[] {"0", "5;x", "1,2,3,4,5", "n;n;n;n;n;n;n;n;n", "5:", "5;", "5,5", "20;5;h;21"}) {
      same("A FAULT (all else stays).", emptied, emptied + "\ntext '" + text + "'");
    }
    same("A FAULT (all else stays).", emptied, RICH + "\nwords");
    edge("THE TAPE, which is empty then (by a FAULT, too)", RICH, "words = -22", "type 53 = 1", "words = 1", "type 54 = 1", "words = 1", "best 0 = 6", "words = 0");
  }

  private static void sets() {
    String said = "Sets are bits.";
    edge(said, "text 'n,5;n,h,20,19;n,t,s;n,a,5,1'", "slack 20", "open 0 ! {0,5}", "open 1 ! {0,19,20,28}", "open 2 ! {0,29,31}", "open 3 ! {0,1,5}");
    edge(said, "text '5;h;a;20,90'", "open 1 ! {28}", "open 2 ! {30}", "open 3 ! {20,27}");
    edge(said, "text '1'", "hear 31 0", "hear 1 0", "open 1 ! 2147483648", "open 0 ! 2");
    edge(said, "text '1;s;1'", "sheet 0 0 2", "item 0 0 0 1", "item 0 0 1 1", "meant 0 0 0 2 ! {0,1,3}");
    edge(said, "text '1;s;2'", "sheet 0 0 2", "item 0 0 0 1", "item 0 0 1 2", "meant 0 0 0 2 ! {0,2,4}");
  }

  public static void main(String[] args) {
    calls();
    badAheadOfAll();
    firstThatACallNames();
    whatTheMachineFinds();
    indexWhereNoItemIsTaken();
    refusedChangesNothing();
    sets();
    end();
  }
}
