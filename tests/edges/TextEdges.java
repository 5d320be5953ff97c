/** Promises 27 to 32: penitents by draws, and the tape. (What a text may be is tried with the terms.) */
final class TextEdges extends Edge {

  // ---- promise 27

  static void p27TimesAre1To20() {
    promise(27, "n times (1 to 20) two draws: THE LIST tells for this DAY a CONFESSION of the SIN of the first one's rest "
        + "by 8, of as many WORDS as the second one's rest by 41; then a DAY: what is OUT then, as a set.", "BEYOND.");
    Run x = new Run();
    x.all(BEYOND, "come 0", "come -1", "come 21", "come MIN", "come MAX").due("now 0", 0).due("count 6", 1);
    x.due("come 1", 0).due("now 0", 1).due("come 20", 0).due("now 0", 21);
    long z = 1;
    int[] list = new int[6];
    for (int day = 0; day < 21; day++) {
      z = (z * 1103515245L + 12345L) % (1L << 32);
      long sin = z / 256 % 8;
      z = (z * 1103515245L + 12345L) % (1L << 32);
      list[day % 6] = (int) (100 * sin + z / 256 % 41);
    }
    x.due("count 6", (int) z);
    for (int i = 0; i < 6; i++) {
      x.due("listed " + i, list[i]);
    }
  }

  static void p27WordsAre0To40() {
    promise(27, "of the SIN of the first one's rest by 8, of as many WORDS as the second one's rest by 41;");
    boolean none = false;
    boolean most = false;
    for (int i = 0; i < 300; i++) {
      int seed = 987654321 * i;
      Run x = Run.of("seed " + seed, "priest 0 255", "come 1");
      long listed = x.ask("listed 0");
      due("a sin of 0 to 7 and 0 to 40 words, from " + seed, listed >= 0 && listed / 100 <= 7 && listed % 100 <= 40, true);
      x.due("of 0 4", listed % 100 == 0 ? 0 : 1).due("of 0 3", listed % 100 == 0 ? 0 : 1 << listed / 100);
      none |= listed % 100 == 0;
      most |= listed % 100 == 40;
    }
    due("0 and 40 words are drawn", none && most, true);
  }

  static void p27WhatIsOutThen() {
    promise(27, "then a DAY: what is OUT then, as a set.");
    // From 1 the first is sin 6 of 36 words: 24 + 36 are held by a priest, 25 + 36 aren't.
    Run.told("priest knows 1 stuffed 24; out 2").due("come 1", 2).due("of 0 1", 55);
    Run.told("priest knows 1 stuffed 25; out 2").due("come 1", 2 + 1 + 64).due("of 0 1", 0);
    Run.told("told 0 1 5").due("come 1", 0).due("listed 0", 636).due("now 2", 1);
  }

  static void p27NoDayBehindTheLast() {
    promise(27, "STATE: DAY would be above 99999.");
    Run x = Run.endless();
    for (int i = 0; i < 1666; i++) {
      x.then("go 60");
    }
    x.then("go 20").due("now 0", 99980).due("come 20", STATE).all(BEYOND, "come 21", "come 0", "come MAX");
    x.due("count 6", 1).due("now 0", 99980).due("listed 2", 0);
    x.then("come 18").due("now 0", 99998).due("come 2", STATE).then("come 1").due("now 0", 99999);
    x.all(STATE, "come 1", "come 20").all(BEYOND, "come 21", "come -1").due("status 4", 4);
  }

  // ---- promise 28

  static void p28SinsDrawnAre0To20() {
    promise(28, "The odds that n (0 to 20) SINS, each the rest by 8 of a draw, are all such as a PRIEST TAKES: a fraction "
        + "in lowest terms: above (what 0), below the line (1).", "BEYOND.");
    // Of 0 to 8 sins: 0, 1/8, 1/4, 3/8, 1/2, 5/8, 3/4, 7/8, 1; of no draws always 1.
    int[] sets = {0, 16, 33, 7, 240, 31, 126, 254, 255};
    int[][] lowest = {{0, 1}, {1, 8}, {1, 4}, {3, 8}, {1, 2}, {5, 8}, {3, 4}, {7, 8}, {1, 1}};
    for (int i = 0; i < sets.length; i++) {
      Run x = Run.of("priest 0 " + sets[i]);
      long above = 1;
      long below = 1;
      for (int n = 0; n <= 20; n++) {
        x.due("odds 0 " + n + " 0", above).due("odds 0 " + n + " 1", below);
        above *= lowest[i][0];
        below *= lowest[i][1];
      }
      x.all(BEYOND, "odds 0 -1 0", "odds 0 21 0", "odds 0 21 1", "odds 0 MIN 0", "odds 0 MAX 0");
      x.due("count 6", 1);
    }
  }

  static void p28TheLargestFraction() {
    promise(28, "a fraction in lowest terms: above (what 0), below the line (1).");
    Run x = Run.of("priest 0 127");
    x.due("odds 0 20 0", 79792266297612001L).due("odds 0 20 1", 1152921504606846976L);
  }

  static void p28WhatIs0Or1() {
    promise(28, "BEYOND.");
    new Run().all(BEYOND, "odds 0 0 0", "odds -1 0 0");
    Run x = Run.told("priest;priest;priest;priest;priest;priest;priest;priest takes 1");
    x.due("odds 0 1 0", 1).due("odds 7 1 0", 1).due("odds 7 1 1", 8);
    x.all(BEYOND, "odds 7 1 -1", "odds 7 1 2", "odds 7 1 MIN", "odds 7 1 MAX");
    x.all(BEYOND, "odds 8 1 0", "odds -1 1 0", "odds MIN 1 0", "odds MAX 1 0");
  }

  // ---- promise 29

  static void p29AnyIntIsASeed() {
    promise(29, "z becomes v: what it was.");
    Run x = new Run();
    x.due("seed MAX", 1).due("seed MIN", Integer.MAX_VALUE).due("seed 0", Integer.MIN_VALUE).due("seed -1", 0);
    x.due("seed " + BEYOND, -1).due("seed " + SIZE, BEYOND).due("seed 1", SIZE).due("count 6", 1).due("status -1", 0);
    x.then("come 1").due("seed 1", -1770082073).then("come 1").due("seed 1", -1770082073);
    x.due("listed 0", 636).due("listed 1", 636);
  }

  // ---- promise 30

  static void p30BytesAre1To4() {
    promise(30, "THE TAPE gets the n lowest bytes of a number behind it, the highest of these first (n 1 to 4): how many it "
        + "has.", "BEYOND: n.");
    Run x = new Run();
    x.all(BEYOND, "feed 0 0", "feed 0 -1", "feed 0 5", "feed 0 MIN", "feed 0 MAX").due("count 5", 0);
    // "out " and "3"; then of ".out" and "..27" the lowest three and two.
    x.due("feed " + 0x6f757420 + " 4", 4).due("feed " + 0x33 + " 1", 5).due("text", 1).due("now 1", 3);
    x.due("feed " + 0x2e6f7574 + " 3", 3).due("feed " + 0x2e2e3237 + " 2", 5).due("text", 1).due("now 1", 27);
    x.due("feed " + 0x7f6f7574 + " 3", 3).due("feed " + (0xffffff00 | 0x39) + " 1", 4).due("text", 1).due("now 1", 9);
    // Of a number below 0 the highest byte, too: 255 begins no token.
    x.due("feed -1 4", 4).due("text", -1).due("feed " + 0x6fff7574 + " 4", 4).due("text", -1);
    x.due("feed MIN 4", 4).due("count 5", 4).due("feed MAX 1", 5);
  }

  static void p30TheTapeIsFull() {
    promise(30, "FULL.");
    for (int n = 1; n <= 4; n++) {
      Run x = new Run();
      for (int has = n; has <= 120; has += n) {
        x.due("feed 0 " + n, has);
      }
      x.all(FULL, "feed 0 1", "feed 0 2", "feed 0 3", "feed 0 4").all(BEYOND, "feed 0 0", "feed 0 5", "feed 0 -1");
      x.due("count 5", 120).due("wipe", 120).due("feed 0 4", 4);
    }
  }

  static void p30NoPartOfANumberIsFed() {
    promise(30, "FULL.");
    Run x = new Run().feeds("out 7" + " ".repeat(112));
    x.due("feed " + 0x39393939 + " 4", FULL).due("count 5", 117).due("feed " + 0x202020 + " 3", 120).due("text", 1);
    x.due("now 1", 7).due("count 5", 0).due("feed 0 4", 4).due("status 1", 1);
  }

  // ---- promise 31

  static void p31EmptyAndFull() {
    promise(31, "THE TAPE is empty: how many it had.");
    Run x = new Run();
    x.due("wipe", 0).due("feed 0 1", 1).due("wipe", 1).due("wipe", 0).due("count 5", 0);
    x.feeds("out 9" + " ".repeat(115)).due("count 5", 120).due("wipe", 120).due("wipe", 0).due("text", -1);
    x.reads("out 1", 1).due("now 1", 1).due("wipe", 0).due("status -1", 0);
  }

  // ---- promise 32

  static void p32HowManyItems() {
    promise(32, "THE TAPE is a TEXT, and empty then; all that it tells is so, item by item: how many ITEMS.");
    Run x = new Run();
    x.reads("out 1", 1).due("count 5", 0).due("text", -1);
    // Each tells anew what one before it told.
    x.reads("out 1;out 128;water 9;water 0;told 0 0 1;told 0 7 2;told 0 7 0", 7);
    x.due("now 1", 128).due("set 0 0", 0).due("listed 0", 700).due("count 5", 0);
    x.reads("saint;saint;saint;saint;saint;saint;saint;saint", 8).due("count 1", 8).due("of 7 0", SAINT);
    // Nothing else changes: not the day, nor who is ill or has heard.
    x.then("go 3", "change 0 4 5", "change 0 5 6", "hold 0 7", "seed 5").reads("water 3", 1);
    x.due("now 0", 3).due("of 0 4", 5).due("of 0 5", 6).due("as 0 4", 7).due("count 6", 5).due("set 0 3", 3);
  }

  static void p32WithAFaultNothingChanges() {
    promise(32, "With a FAULT: -1 less the FAULT (nothing changes but that THE TAPE is empty; no finding).");
    Run x = Run.told("priest knows 3 stuffed 9; out 5; water 7; told 1 1 1").then("hold 0 0", "seed 8", "image", "go 2");
    Run twin = x.twin();
    x.reads("out 9; water 1; told 0 2 3; told 1 0 0; saint; saint knows 9; curate stuffed 1000", -1 - 77);
    x.due("count 5", 0).due("status -1", 0);
    due("all else", x.looks(), twin.looks());
    x = new Run();
    x.reads("", -1).reads("out 256", -5).reads(" ".repeat(119) + "#", -120).reads(" ".repeat(120), -121);
    x.due("count 5", 0).due("status -1", 0).reads("out 255", 1);
  }
}
