/** Promises 11 to 17: days that go by, what is told now, and what will be. */
final class DaysEdges extends Edge {

  // ---- promise 11

  static void p11DaysAre1To60() {
    promise(11, "n DAYS (1 to 60): what is OUT then, as a set.", "BEYOND.");
    Run x = new Run();
    x.all(BEYOND, "go 0", "go -1", "go 61", "go MIN", "go MAX").due("now 0", 0);
    x.due("go 1", 0).due("now 0", 1).due("go 60", 0).due("now 0", 61).due("go 59", 0).due("now 0", 120);
  }

  static void p11WhatIsOutThen() {
    promise(11, "n DAYS (1 to 60): what is OUT then, as a set.");
    // Eight who know one sin each, full to the brim and one more: all is out on one day.
    Run x = new Run();
    for (int p = 0; p < 8; p++) {
      x.then("priest 0 0", "change " + p + " 3 " + (1 << p), "change " + p + " 1 61");
    }
    x.due("go 1", 255).due("now 6", 8).due("go 60", 255);
    // On the 60th day, not before: 10 more each 6 days from day 41 on.
    x = Run.told("priest takes 2; told 5 1 0; out 4").then("go 36", "list 5 140");
    x.due("ahead 0 5 23", 0).due("ahead 0 5 24", 1).due("go 23", 4).due("go 1", 6);
  }

  static void p11NoDayBehindTheLast() {
    promise(11, "STATE: DAY would be above 99999.");
    Run x = Run.endless();
    for (int i = 0; i < 1665; i++) {
      x.then("go 60");
    }
    x.then("go 40").due("now 0", 99940);
    x.due("go 60", STATE).due("now 0", 99940).all(BEYOND, "go 61", "go 0", "go -1", "go MAX");
    x.due("go 58", 0).due("go 2", STATE).due("now 0", 99998).due("go 1", 0).due("now 0", 99999);
    x.all(STATE, "go 1", "go 60").all(BEYOND, "go 61", "go 0").due("now 0", 99999).due("status 4", 4);
  }

  // ---- promise 12

  static void p12WhatIs0To7() {
    promise(12, "What 0 DAY, 1 OUT, 2 KEPT,", "BEYOND.");
    Run x = Run.told("out 9; told 0 0 1").then("go 7");
    x.due("now 0", 7).due("now 1", 9).due("now 2", 2).due("now 7", 255);
    x.all(BEYOND, "now -1", "now 8", "now MIN", "now MAX").due("status 0", 4);
  }

  static void p12OfNobody() {
    promise(12, "5 who is STUFFED most (the number of the PRIEST, of several the least; -1: there are none),");
    Run x = new Run();
    x.due("now 3", 0).due("now 4", 0).due("now 5", -1).due("now 6", 0).due("now 7", 255).due("status -1", 0);
    x.then("priest 0 0").due("now 5", 0).due("now 7", 255);
  }

  static void p12OfEight() {
    promise(12, "3 SINS that PRIESTS KNOW together, as a set, 4 STUFFED of all together,");
    promise(12, "6 ILL of all together, 7 SINS that nobody TAKES, as a set.");
    Run x = new Run();
    for (int p = 0; p < 8; p++) {
      x.due("now 3", (1 << p) - 1).due("now 4", 999 * p).due("now 6", 9999 * p).due("now 7", 256 - (1 << p));
      x.then("priest 0 " + (1 << p), "change " + p + " 3 " + (1 << p), "change " + p + " 1 999", "change " + p + " 5 9999");
    }
    x.due("now 3", 255).due("now 4", 7992).due("now 6", 79992).due("now 7", 0).due("count 4", 79992);
  }

  static void p12OfSeveralTheLeast() {
    promise(12, "5 who is STUFFED most (the number of the PRIEST, of several the least; -1: there are none),");
    Run x = Run.told("priest;priest;priest;priest;priest;priest;priest;priest");
    x.due("now 5", 0).then("change 7 1 1").due("now 5", 7).then("change 3 1 1").due("now 5", 3);
    x.then("change 5 1 999").due("now 5", 5).then("change 2 1 999").due("now 5", 2).then("change 6 1 998").due("now 5", 2);
  }

  // ---- promise 13

  static void p13WhatIsAskedAhead() {
    promise(13, "What 1, 3, 4, 5, 6 (as in of()) of a PRIEST behind n (0 to 100) DAYS.", "BEYOND.");
    Run x = Run.told("bishop knows 3 stuffed 61; told 0 0 40").then("change 0 4 1", "change 0 5 7");
    x.due("ahead 0 1 0", 61).due("ahead 0 3 0", 3).due("ahead 0 4 0", 1).due("ahead 0 5 0", 7).due("ahead 0 6 0", 61);
    x.due("ahead 0 1 1", 0).due("ahead 0 3 1", 0).due("ahead 0 4 1", 2).due("ahead 0 5 1", 8).due("ahead 0 6 1", 62);
    for (int what : new int[] {-1, 0, 2, 7, 8, 9, 10, Integer.MIN_VALUE, Integer.MAX_VALUE}) {
      x.due("ahead 0 " + what + " 0", BEYOND);
    }
  }

  static void p13DaysAre0To100() {
    promise(13, "behind n (0 to 100) DAYS.", "BEYOND.");
    Run x = Run.told("saint stuffed 99; told 3 1 0").then("change 0 3 3");
    x.due("ahead 0 1 0", 99).due("ahead 0 1 1", 98).due("ahead 0 1 98", 1).due("ahead 0 1 99", 0).due("ahead 0 1 100", 0);
    x.all(BEYOND, "ahead 0 1 -1", "ahead 0 1 101", "ahead 0 1 MIN", "ahead 0 1 MAX").due("now 0", 0).due("of 0 1", 99);
    // Heard once in each 6 days: on day 99, which is the 100th, for the 17th time.
    x.then("list 3 101").due("ahead 0 4 99", 16).due("ahead 0 4 100", 17);
  }

  static void p13PriestsOnly() {
    promise(13, "BEYOND.");
    new Run().all(BEYOND, "ahead 0 1 0", "ahead -1 1 0");
    Run x = Run.told("priest;priest;priest;priest;priest;priest;priest;priest stuffed 5");
    x.due("ahead 0 1 0", 0).due("ahead 7 1 0", 5).due("ahead 7 1 1", 0);
    x.all(BEYOND, "ahead 8 1 0", "ahead -1 1 0", "ahead MIN 1 0", "ahead MAX 1 0");
  }

  // ---- promise 14

  static void p14Behind1DayAtLeast() {
    promise(14, "Behind how many DAYS (1 to 200, the fewest) ILL of a PRIEST is more than now.");
    Run x = Run.told("priest takes 0 stuffed 999; priest takes 2 stuffed 60; priest takes 0 stuffed 60");
    x.then("change 0 5 9998", "list 0 101", "list 1 101").due("ill 0", 1).due("ill 1", 1).due("ill 2", NONE);
    x.then("list 0 100", "list 1 106").due("ill 1", 2).due("of 0 5", 9998).due("now 0", 0);
  }

  /** With no water a sweet one takes 13 and digests 12 in 6 days: before the k-th round he is stuffed by k, holds 45. */
  static void p14Behind200DaysAtMost() {
    promise(14, "Behind how many DAYS (1 to 200, the fewest) ILL of a PRIEST is more than now.", "NONE.");
    // 33 + 13 is more than 45: on days 198, 199 and 200.
    Run.told("water 0; sweet takes 2; told 0 1 13").due("ill 0", 199);
    Run.told("water 0; sweet takes 2 stuffed 2; told 1 1 13").due("ill 0", 200);
    Run.told("water 0; sweet takes 2 stuffed 4; told 2 1 13").due("ill 0", NONE).then("go 1").due("ill 0", 200);
  }

  static void p14IllNoMoreThan9999() {
    promise(14, "ILL of a PRIEST is more than now.", "NONE.");
    Run x = Run.told("priest stuffed 61").then("change 0 5 9999").due("ill 0", NONE);
    x.then("change 0 5 9998").due("ill 0", 1).due("status 3", 1);
  }

  static void p14PriestsOnly() {
    promise(14, "BEYOND.", "NONE.");
    new Run().all(BEYOND, "ill 0", "ill -1");
    Run x = Run.told("priest; priest stuffed 61");
    x.due("ill 0", NONE).due("ill 1", 1).all(BEYOND, "ill 2", "ill -1", "ill MIN", "ill MAX", "ill 8");
  }

  // ---- promise 15

  static void p15Behind0DaysAtLeast() {
    promise(15, "Behind how many DAYS (0 to 200, the fewest) a SIN is OUT.");
    Run x = Run.told("out 128; priest knows 1 stuffed 61");
    x.due("out 7", 0).due("out 0", 1).due("out 1", NONE).due("now 1", 128).due("now 0", 0);
    x.then("go 1").due("out 0", 0);
  }

  static void p15Behind200DaysAtMost() {
    promise(15, "Behind how many DAYS (0 to 200, the fewest) a SIN is OUT.", "NONE.");
    Run.told("water 0; sweet takes 2; told 0 1 13").due("out 1", 199);
    Run.told("water 0; sweet takes 2 stuffed 2; told 1 1 13").due("out 1", 200);
    Run.told("water 0; sweet takes 2 stuffed 4; told 2 1 13").due("out 1", NONE).then("go 1").due("out 1", 200);
  }

  static void p15SinsAre0To7() {
    promise(15, "BEYOND.", "NONE.");
    Run x = new Run();
    x.all(BEYOND, "out -1", "out 8", "out MIN", "out MAX", "out 31", "out 32", "out 256").all(NONE, "out 0", "out 7");
    x.then("set 1 129").all(0, "out 0", "out 7").all(NONE, "out 1", "out 6");
  }

  // ---- promise 16

  static void p16SinsKnownAre0To8() {
    promise(16, "Behind how many DAYS (0 to 200, the fewest) a PRIEST KNOWS v (0 to 8) SINS or more.", "BEYOND.", "NONE.");
    Run x = Run.told("priest; priest takes 0 knows 255; priest takes 0 knows 127");
    x.due("wise 0 0", 0).due("wise 0 1", NONE).due("wise 1 0", 0).due("wise 1 8", 0).due("wise 2 7", 0).due("wise 2 8", NONE);
    x.all(BEYOND, "wise 0 -1", "wise 0 9", "wise 1 9", "wise 0 MIN", "wise 0 MAX");
    x.then("list 0 1", "list 1 101").due("wise 0 1", 1).due("wise 0 2", 2).due("wise 0 3", NONE).due("of 0 3", 0);
  }

  /**
   * A saint holds 110 and gets 2 fuller in 6 days; when his room is below the sweet one's 40, that one hears the sin:
   * 105 - 2 k is below 40 in round 33, which is on day 198, 199 or 200.
   */
  static void p16Behind200DaysAtMost() {
    promise(16, "Behind how many DAYS (0 to 200, the fewest) a PRIEST KNOWS v (0 to 8) SINS or more.", "NONE.");
    Run.told("saint takes 2 knows 14 stuffed 5; sweet takes 2; told 0 1 10").due("wise 1 1", 199);
    Run.told("saint takes 2 knows 14 stuffed 6; sweet takes 2; told 1 1 10").due("wise 1 1", 200);
    Run x = Run.told("saint takes 2 knows 14 stuffed 7; sweet takes 2; told 2 1 10");
    x.due("wise 1 1", NONE).then("go 1").due("wise 1 1", 200);
  }

  static void p16PriestsOnly() {
    promise(16, "BEYOND.");
    new Run().all(BEYOND, "wise 0 0", "wise -1 0");
    Run x = Run.told("priest;priest;priest;priest;priest;priest;priest;priest knows 1");
    x.due("wise 0 0", 0).due("wise 7 1", 0).all(BEYOND, "wise 8 0", "wise -1 0", "wise MIN 0", "wise MAX 0");
  }

  // ---- promise 17

  static void p17FulnessIs0To999() {
    promise(17, "Behind how many DAYS (0 to 200, the fewest) a PRIEST is STUFFED by v (0 to 999) or more.", "BEYOND.",
        "NONE.");
    Run x = Run.told("priest; priest takes 0 stuffed 999; priest takes 0 stuffed 998");
    x.due("when 0 0", 0).due("when 0 1", NONE).due("when 1 999", 0).due("when 2 998", 0).due("when 2 999", NONE);
    x.all(BEYOND, "when 0 -1", "when 0 1000", "when 1 1000", "when 0 MIN", "when 0 MAX");
    x.then("change 0 1 3", "list 0 12", "list 1 13");
    // 3, 10, 18: stuffed by more than asked does, too.
    x.due("when 0 3", 0).due("when 0 4", 1).due("when 0 10", 1).due("when 0 11", 2).due("when 0 18", 2);
    x.due("when 0 19", NONE).due("of 0 1", 3);
  }

  /** A saint takes 8 and digests 6 in 6 days: behind the day of round k he is stuffed by 2 k + 7. */
  static void p17Behind200DaysAtMost() {
    promise(17, "Behind how many DAYS (0 to 200, the fewest) a PRIEST is STUFFED by v (0 to 999) or more.", "NONE.");
    Run.told("saint takes 2; told 0 1 10").due("when 0 73", 199);
    Run.told("saint takes 2 stuffed 1; told 1 1 10").due("when 0 73", 200);
    Run x = Run.told("saint takes 2 stuffed 2; told 2 1 10");
    x.due("when 0 73", NONE).then("go 1").due("when 0 73", 200);
  }

  static void p17PriestsOnly() {
    promise(17, "BEYOND.");
    new Run().all(BEYOND, "when 0 0", "when -1 0");
    Run x = Run.told("priest;priest;priest;priest;priest;priest;priest;priest stuffed 4");
    x.due("when 0 0", 0).due("when 7 4", 0).all(BEYOND, "when 8 0", "when -1 0", "when MIN 0", "when MAX 0");
  }
}
