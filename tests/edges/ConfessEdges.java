/** Promises 18 to 26: how to confess, and what told fulness says of words and kinds. */
final class ConfessEdges extends Edge {

  // ---- promise 18

  static void p18PlacesAre0To5() {
    promise(18, "The most WORDS (0 to 40) of the CONFESSION in place i of THE LIST with which ILL of all together is as "
        + "now behind n (0 to 60) DAYS.", "BEYOND.");
    Run x = Run.told("priest stuffed 50; told 0 3 0");
    x.all(BEYOND, "wordsFor -1 0", "wordsFor 6 0", "wordsFor MIN 0", "wordsFor MAX 0");
    x.due("wordsFor 0 1", 10).due("wordsFor 5 1", 40).due("wordsFor 1 1", 40);
    // The sin is as it is: whom it doesn't go to it doesn't swell.
    x.then("change 0 2 247").due("wordsFor 0 1", 40).then("change 0 2 8").due("wordsFor 0 1", 10);
    x.due("listed 0", 300).due("of 0 1", 50);
  }

  /** A saint swells by 2 less than the words and digests 6 in 6 days; place 5 comes on days 5, 11, .., 53, 59. */
  static void p18DaysAre0To60() {
    promise(18, "behind n (0 to 60) DAYS.", "BEYOND.");
    Run x = Run.told("saint takes 2; told 5 1 0");
    x.all(BEYOND, "wordsFor 5 -1", "wordsFor 5 61", "wordsFor 5 MIN", "wordsFor 5 MAX");
    // 10 times 14 less 54 is 86, 10 times 15 less 54 is 96 (more than 90, on day 59); 9 times 16 less 48 is 96.
    x.due("wordsFor 5 60", 16).due("wordsFor 5 59", 17).due("wordsFor 5 54", 17).due("wordsFor 5 53", 18);
    x.due("wordsFor 5 0", 40).due("wordsFor 5 5", 40);
  }

  static void p18WordsAre0To40() {
    promise(18, "The most WORDS (0 to 40)", "NONE.");
    Run x = Run.told("priest stuffed 20; told 0 1 7").due("wordsFor 0 1", 40).due("wordsFor 0 2", 40);
    x.then("change 0 1 21").due("wordsFor 0 1", 39).then("change 0 1 59").due("wordsFor 0 1", 1);
    x.then("change 0 1 60").due("wordsFor 0 1", 0).then("change 0 1 61").due("wordsFor 0 1", NONE);
    x.due("wordsFor 0 0", 40).then("change 0 5 9999").due("wordsFor 0 1", 40).due("status 3", 1);
    new Run().due("wordsFor 0 60", 40).due("wordsFor 5 0", 40);
  }

  // ---- promise 19

  static void p19WaterIs0To9() {
    promise(19, "The least WATER with which nothing more is OUT than now behind n (0 to 60) DAYS.", "NONE.");
    // 25 less the water, and what he is stuffed by, are 40 at most.
    Run x = Run.told("curate takes 2 stuffed 15; told 0 1 25; water 7").due("waterFor 1", 0);
    x.then("change 0 1 16").due("waterFor 1", 1).then("change 0 1 23").due("waterFor 1", 8);
    x.then("change 0 1 24").due("waterFor 1", 9).then("change 0 1 25").due("waterFor 1", NONE);
    x.due("waterFor 0", 0).due("set 0 7", 7).then("set 1 2").due("waterFor 1", 0);
    new Run().due("waterFor 60", 0).due("waterFor 0", 0);
  }

  /** With no water 13 come in and 12 are digested in 6 days: 24 + 13 + 9 are more than 45 on day 59; 24 + 13 + 8 aren't. */
  static void p19DaysAre0To60() {
    promise(19, "behind n (0 to 60) DAYS.", "BEYOND.");
    Run x = Run.told("sweet takes 2 stuffed 34; told 5 1 13");
    x.due("waterFor 59", 0).due("waterFor 60", 1).due("waterFor 0", 0);
    x.all(BEYOND, "waterFor -1", "waterFor 61", "waterFor MIN", "waterFor MAX");
    // What is out for any water: NONE, but what is asked beyond its bounds is told first.
    x = Run.told("priest knows 1 stuffed 61").due("waterFor 60", NONE).due("waterFor 61", BEYOND).due("waterFor 0", 0);
  }

  // ---- promise 20

  static void p20SinsAre0To7() {
    promise(20, "The SIN that a PRIEST must not TAKE (any more), so that STUFFED of him is least behind n (0 to 60) DAYS.");
    for (int sin = 0; sin < 8; sin++) {
      Run.of("priest 0 255", "list 0 " + (100 * sin + 20)).due("spare 0 1", sin).due("spare 0 0", 0).due("of 0 2", 255);
    }
    // Of several the least, also one that he doesn't take.
    Run.told("priest takes 0; told 0 7 20").due("spare 0 1", 0);
    Run.told("priest takes 128; told 0 7 5").due("spare 0 1", 0).due("spare 0 0", 0);
    Run.told("priest takes 128; told 0 7 6").due("spare 0 1", 7).due("spare 0 0", 0);
    Run.told("priest takes 192; told 0 7 20; told 1 6 20").due("spare 0 2", 6);
  }

  /** What comes on day 53 is digested by day 58; what comes on day 59 is seen behind 60 days alone. */
  static void p20DaysAre0To60() {
    promise(20, "behind n (0 to 60) DAYS.", "BEYOND.");
    Run x = Run.told("priest; told 5 3 20");
    x.due("spare 0 60", 3).due("spare 0 59", 0).due("spare 0 0", 0).due("spare 0 6", 3);
    x.all(BEYOND, "spare 0 -1", "spare 0 61", "spare 0 MIN", "spare 0 MAX");
  }

  static void p20PriestsOnly() {
    promise(20, "BEYOND.");
    new Run().all(BEYOND, "spare 0 0", "spare -1 0");
    Run x = Run.of("list 0 220");
    for (int p = 0; p < 7; p++) {
      x.then("priest 0 0");
    }
    x.all(BEYOND, "spare 7 1").then("priest 0 4").due("spare 7 1", 2).due("spare 0 1", 0);
    x.all(BEYOND, "spare 8 0", "spare -1 0", "spare MIN 0", "spare MAX 0");
  }

  // ---- promise 21

  static void p21KindsAre0To6() {
    promise(21, "The KIND of which he must be, so that ILL of all together is least behind n (0 to 60) DAYS.");
    // Each holds what he is stuffed by, and those of less number hold less.
    Run x = Run.told("bishop stuffed 60").due("kindFor 0 1", 0);
    x.then("change 0 4 39", "change 0 1 99").due("kindFor 0 1", 5).then("change 0 1 100").due("kindFor 0 1", 0);
    x.then("change 0 3 1").due("kindFor 0 1", 6).then("change 0 1 101").due("kindFor 0 1", 0);
    x.then("change 0 3 255", "change 0 1 160").due("kindFor 0 1", 4).then("change 0 1 80").due("kindFor 0 1", 3);
    x.due("of 0 0", BISHOP);
    // All fall ill, but none more than 9999 times.
    x.then("change 0 5 9999", "change 0 1 999").due("kindFor 0 1", 0);
  }

  static void p21IllOfAllTogether() {
    promise(21, "so that ILL of all together is least behind n (0 to 60) DAYS.");
    Run x = Run.told("priest stuffed 80;priest;priest;priest;priest;priest;priest;priest");
    for (int p = 0; p < 8; p++) {
      x.due("kindFor 0 1", 4).then("change " + p + " 5 " + (p == 0 ? 9998 : 9999));
    }
    x.due("kindFor 0 1", 4).due("kindFor 7 1", 0);
    // The other one has 35 of room and is ill by 65, unless this one has more and eats it himself.
    x = Run.told("priest stuffed 30; priest stuffed 25; told 0 1 40").due("kindFor 0 1", 4);
    x.then("list 0 100").due("kindFor 0 1", 0);
  }

  /** Full by 70 only a saint and a hungry one stay well; the saint is ill by 65 + 8 + 18 of 90 on day 59. */
  static void p21DaysAre0To60() {
    promise(21, "behind n (0 to 60) DAYS.", "BEYOND.");
    Run x = Run.told("priest takes 2 stuffed 70; told 5 1 10");
    x.due("kindFor 0 0", 0).due("kindFor 0 1", 4).due("kindFor 0 59", 4).due("kindFor 0 60", 6);
    x.all(BEYOND, "kindFor 0 -1", "kindFor 0 61", "kindFor 0 MIN", "kindFor 0 MAX");
  }

  static void p21PriestsOnly() {
    promise(21, "BEYOND.");
    new Run().all(BEYOND, "kindFor 0 0", "kindFor -1 0");
    Run x = Run.told("priest;priest;priest;priest;priest;priest;priest;priest stuffed 80");
    x.due("kindFor 0 1", 0).due("kindFor 7 1", 4).all(BEYOND, "kindFor 8 0", "kindFor -1 0", "kindFor MIN 0", "kindFor MAX 0");
  }

  // ---- promise 22

  static void p22FromNoneToAllMustFast() {
    promise(22, "The set of fewest PRIESTS such that, if these TAKE nothing from now on, nothing more is OUT than now "
        + "behind n (0 to 20) DAYS; of several the least.");
    new Run().due("fast 20", 0).due("fast 0", 0);
    // Whoever eats it is ill by it, so that nobody may.
    Run x = Run.of("list 0 40");
    for (int p = 0; p < 8; p++) {
      x.then("priest 0 1", "change " + p + " 1 30").due("fast 1", (2 << p) - 1);
    }
    x.due("fast 0", 0).then("set 1 1").due("fast 1", 0).due("of 7 2", 1);
    // One who has room enough spares them all, for one day; then the last of eight alone.
    x.then("set 1 0", "change 7 1 0", "change 7 3 2", "change 7 0 2", "list 1 40").due("fast 1", 0).due("fast 2", 255);
    x.then("change 7 1 60");
    for (int p = 0; p < 7; p++) {
      x.then("change " + p + " 2 0");
    }
    x.due("fast 1", 128);
  }

  /** A priest gets 10 fuller in 6 days: 70 on day 19, which is the 20th. */
  static void p22DaysAre0To20() {
    promise(22, "behind n (0 to 20) DAYS;", "BEYOND.");
    Run x = Run.told("priest takes 2; told 1 1 40");
    x.due("fast 20", 1).due("fast 19", 0).due("fast 0", 0);
    x.all(BEYOND, "fast -1", "fast 21", "fast 60", "fast MIN", "fast MAX");
  }

  static void p22NothingHelps() {
    promise(22, "NONE.");
    Run x = Run.told("priest takes 0 knows 1 stuffed 61; saint");
    x.due("fast 1", NONE).due("fast 20", NONE).due("fast 0", 0).due("fast 21", BEYOND).then("set 1 1").due("fast 1", 0);
  }

  static void p22OfSeveralTheLeast() {
    promise(22, "of several the least.");
    // A sweet one who hears both holds 50; he falls ill of 47 unless he fasts (bit 1) or the other does (bit 0).
    Run.told("priest takes 2; sweet takes 10 stuffed 13; told 0 1 1; told 1 3 40").due("fast 2", 1);
    Run.told("sweet takes 10 stuffed 13; priest takes 2; told 0 1 1; told 1 3 40").due("fast 2", 1);
    // Fewest counts before least: 2 alone (4), not 0 and 1 (3).
    Run.told("priest takes 1; priest takes 2; priest takes 4 stuffed 40; told 0 2 40").due("fast 1", 4);
  }

  // ---- promise 23

  static void p23SetsAre0To255() {
    promise(23, "The set of fewest PRIESTS who TAKE all SINS of a set (0 to 255) together; of several the least.",
        "BEYOND.");
    Run x = new Run();
    x.due("cover 0", 0).due("cover 1", NONE);
    for (int p = 0; p < 8; p++) {
      x.then("priest 0 " + (1 << p)).due("cover " + ((2 << p) - 1), (2 << p) - 1).due("cover " + (1 << p), 1 << p);
    }
    x.due("cover 255", 255).due("cover 254", 254).due("cover 128", 128).due("cover 0", 0);
    x.all(BEYOND, "cover -1", "cover 256", "cover MIN", "cover MAX", "cover 257");
  }

  static void p23OfSeveralTheLeast() {
    promise(23, "of several the least.");
    Run x = Run.told("priest takes 3; priest takes 5; priest takes 6; priest takes 1; priest takes 7");
    x.due("cover 7", 16).due("cover 1", 1).due("cover 4", 2).due("cover 6", 4).due("cover 5", 2);
    x.then("change 4 2 0").due("cover 7", 3).then("change 0 2 0").due("cover 7", 6).then("change 1 2 0").due("cover 7", 12);
  }

  static void p23NobodyTakesOneOfThem() {
    promise(23, "NONE.");
    Run x = new Run();
    x.due("cover 0", 0).due("cover 128", NONE).due("cover 256", BEYOND);
    x.then("priest 0 127").due("cover 127", 1).due("cover 128", NONE).due("cover 255", NONE);
    x.then("priest 0 128").due("cover 255", 3).then("dies 1").due("cover 255", NONE).due("cover 127", 1);
  }

  // ---- promises 24 to 26: their findings

  static void p24SheetBeforeMissingBeforePriest() {
    promise(24, "BEYOND: no such sheet. MISSING. BEYOND: no such PRIEST.");
    toldFulness("fits", 41);
  }

  static void p25SheetBeforeMissingBeforePriest() {
    promise(25, "BEYOND, MISSING, BEYOND likewise.");
    toldFulness("words", 0);
  }

  static void p26SheetBeforeMissingBeforePriest() {
    promise(26, "BEYOND: no such sheet. MISSING. BEYOND: no such PRIEST.");
    toldFulness("kinds", 127);
  }

  private static void toldFulness(String call, int any) {
    Run x = Run.told("priest; priest");
    x.all(BEYOND, call + " -1 0", call + " 4 0", call + " MIN 0", call + " MAX 0", call + " -1 -1", call + " 4 2");
    for (int s = 0; s < 4; s++) {
      x.all(MISSING, call + " " + s + " 0", call + " " + s + " 1", call + " " + s + " 2", call + " " + s + " -1");
      x.then("sheet " + s + " 8 0").all(any, call + " " + s + " 0", call + " " + s + " 1");
      x.all(BEYOND, call + " " + s + " 2", call + " " + s + " -1", call + " " + s + " MIN", call + " " + s + " MAX");
      x.then("sheet " + s + " 0 0").due(call + " " + s + " 0", MISSING);
    }
    new Run().then("sheet 0 8 0").all(BEYOND, call + " 0 0", call + " 0 -1").due(call + " 1 0", MISSING);
  }

  // ---- promise 24

  static void p24WordsAre0To40() {
    promise(24, "How many WORDS (0 to 40) the CONFESSION of this DAY could be of (its SIN as it is; the place of THE LIST "
        + "is otherwise for good, each 6 DAYS),");
    Run x = Run.told("priest takes 8; told 0 3 7").sheet(0, 8, 0, -1).due("fits 0 0", 41);
    x.sheet(0, 8, 0, 35).due("fits 0 0", 1).sheet(0, 8, 0, 36).due("fits 0 0", 0).sheet(0, 8, 0, 0).due("fits 0 0", 6);
    x.sheet(0, 8, 1, -1).due("fits 0 0", 0).due("listed 0", 307).due("of 0 1", 0);
    // Of a sin that he doesn't take he isn't stuffed by any of them.
    x.then("change 0 2 247").sheet(0, 8, 0, 0).due("fits 0 0", 41).sheet(0, 8, 0, 1).due("fits 0 0", 0);
    // On day 5 place 5 is this day's.
    x = Run.told("priest; told 5 3 7; told 0 3 9").then("go 5").sheet(0, 8, 0, -1, 5).due("fits 0 0", 1);
    x.due("words 0 0", 6);
  }

  static void p24FromNowToBehind39Days() {
    promise(24, "so that a PRIEST is STUFFED now and behind each DAY further on as a sheet tells (-1: any).");
    // An empty sheet tells nothing; one of one number tells of now alone.
    Run x = Run.told("priest stuffed 7; told 0 1 9").sheet(0, 8).due("fits 0 0", 41);
    x.sheet(0, 8, 7).due("fits 0 0", 41).sheet(0, 8, 6).due("fits 0 0", 0).sheet(0, 8, -1).due("fits 0 0", 41);
    x.sheet(0, 8, -1, 10).due("fits 0 0", 1).sheet(0, 8, 7, 10).due("fits 0 0", 1).sheet(0, 8, 8, 10).due("fits 0 0", 0);
    // The 7th number tells of 6 days further on, the 8th of the place's next round: 7 words less 5.
    x.sheet(0, 8, 7, -1, -1, -1, -1, -1, 0, 2).due("fits 0 0", 1);
    // A sheet of 40: he eats on day 36 and has digested 15 of it behind 39 days.
    x = Run.told("priest takes 2; told 0 1 0").then("sheet 3 16 40");
    for (int i = 0; i < 40; i++) {
      x.then("write 3 " + i + " -1");
    }
    x.due("fits 3 0", 41).then("write 3 39 10").due("fits 3 0", 1).due("words 3 0", 25);
    x.then("write 3 39 -1", "write 3 38 10").due("fits 3 0", 1).due("words 3 0", 20);
    x.then("write 3 38 -1", "write 3 0 1").due("fits 3 0", 0);
  }

  static void p24AnyIsMinus1Alone() {
    promise(24, "(-1: any).");
    Run x = Run.told("priest stuffed 7");
    x.sheet(0, 8, -2).due("fits 0 0", 0).sheet(0, 8, 254).due("fits 0 0", 0).sheet(0, 8, 255).due("fits 0 0", 41);
    x.sheet(0, 16, 255).due("fits 0 0", 0).sheet(0, 16, 65535).due("fits 0 0", 41).sheet(0, 32, 65535).due("fits 0 0", 0);
    x.sheet(0, 32, -1).due("fits 0 0", 41).sheet(0, 8, 128).due("fits 0 0", 0);
    x.then("change 0 1 999").sheet(0, 16, 999).due("fits 0 0", 41).sheet(0, 16, 1000).due("fits 0 0", 0);
  }

  // ---- promise 25

  static void p25TheFewest() {
    promise(25, "The fewest of them.", "NONE.");
    Run x = Run.told("priest; told 0 1 9").sheet(0, 8, 0, -1).due("words 0 0", 0);
    x.sheet(0, 8, 0, 0).due("words 0 0", 0).sheet(0, 8, 0, 1).due("words 0 0", 6).sheet(0, 8, 0, 35).due("words 0 0", 40);
    x.sheet(0, 8, 0, 36).due("words 0 0", NONE).sheet(0, 8, 1).due("words 0 0", NONE).sheet(0, 8).due("words 0 0", 0);
    // Ill by more than 30 words, of which 31 are the fewest.
    x.then("change 0 1 30").sheet(0, 8, 30, 0).due("words 0 0", 31).due("fits 0 0", 10).due("listed 0", 109);
  }

  // ---- promise 26

  static void p26KindsAsASet() {
    promise(26, "KINDS that he could be of, as a set, likewise.");
    Run x = Run.told("priest stuffed 31").sheet(0, 8, 31).due("kinds 0 0", 127).sheet(0, 8, 30).due("kinds 0 0", 0);
    x.sheet(0, 8).due("kinds 0 0", 127).sheet(0, 8, -1, -1).due("kinds 0 0", 127);
    // 26 of a priest and a bishop, 24, 0 (ill), 27, 30, 15.
    int[] behind = {26, 24, 0, 27, 30, 15, 31};
    int[] sets = {1 + 32, 2, 4, 8, 16, 64, 0};
    for (int i = 0; i < behind.length; i++) {
      x.sheet(0, 8, -1, behind[i]).due("kinds 0 0", sets[i]);
    }
    x.due("of 0 0", PRIEST);
  }

  static void p26FromNowToBehind39Days() {
    promise(26, "KINDS that he could be of, as a set, likewise.");
    Run x = Run.told("priest stuffed 45").then("sheet 0 8 40");
    for (int i = 0; i < 40; i++) {
      x.then("write 0 " + i + " -1");
    }
    x.due("kinds 0 0", 127).then("write 0 39 6").due("kinds 0 0", 16).then("write 0 39 0").due("kinds 0 0", 111);
    x.then("write 0 39 -1", "write 0 38 7").due("kinds 0 0", 16).then("write 0 0 44").due("kinds 0 0", 0);
  }
}
