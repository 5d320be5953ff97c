/** The sentences of "Terms": what the numbers may be, what a day does at its bounds, draws, texts, spots and sheets. */
final class TermsEdges extends Edge {

  // ---- findings, sets, quotients

  static void findingsAreSevenNumbers() {
    terms("FINDINGS are answers below -1000000: LOW is -1000001; LOW BEYOND, LOW - 1 FULL, LOW - 2 KIND, LOW - 3 NONE, "
        + "LOW - 4 STATE, LOW - 5 MISSING, LOW - 6 SIZE (in longs, too).");
    Run x = Run.told("priest;priest;priest;priest;priest;priest;priest;priest");
    x.then("hold 0 0");
    x.due("set 0 10", -1000001);
    x.due("odds 0 21 0", -1000001L);
    x.due("priest 0 0", -1000002);
    x.due("as 0 1", -1000003);
    x.due("undo", -1000004);
    x.due("load 0", -1000006);
    x.due("sheet 0 8 -1", -1000007);
    Run last = onTheLastDay();
    last.due("go 1", -1000005);
  }

  /** 512 calls bring no object beyond day 30660, so the bound of DAY is looked at in a longer run. */
  static Run onTheLastDay() {
    Run x = Run.endless();
    for (int i = 0; i < 1666; i++) {
      x.then("go 60");
    }
    return x.then("go 39");
  }

  static void zIsNoFinding() {
    terms("What seed() and count(6) tell, z, may be any int: that is no finding.");
    Run x = new Run();
    int was = 1;
    int[] all = {0, -1, -1000000, -1000001, -1000002, -1000003, -1000004, -1000005, -1000006, -1000007, -1000008,
        Integer.MIN_VALUE, Integer.MAX_VALUE};
    for (int z : all) {
      x.due("seed " + z, was).due("count 6", z);
      was = z;
    }
    x.due("status -1", 0);
  }

  static void quotientsAreCut() {
    terms("Quotients are cut.");
    Run x = Run.told("envious; hungry");
    x.all(0, "swells 0 300", "swells 0 301", "swells 0 302");
    x.all(1, "swells 0 303", "swells 0 304", "swells 0 305");
    x.due("swells 0 338", 12).due("swells 0 339", 13).due("swells 0 340", 13);
    x.due("swells 1 1", 0).due("swells 1 2", 1).due("swells 1 3", 1).due("swells 1 39", 19).due("swells 1 40", 20);
    x.due("swells 1 305", 0).due("swells 1 306", 1).due("swells 1 340", 6);
  }

  static void setsAreBits() {
    terms("Sets (of SINS as bits 0 to 7, told as 0 to 255) are told as bits;");
    for (int sin = 0; sin < 8; sin++) {
      int bit = 1 << sin;
      Run x = Run.of("priest 0 " + bit, "list 0 " + (100 * sin + 40), "list 1 " + (100 * sin + 40));
      x.due("cover " + bit, 1).due("cover " + (255 - bit), NONE).due("now 7", 255 - bit);
      x.due("go 1", 0).due("of 0 3", bit).due("now 3", bit).due("go 1", bit).due("count 2", 1);
    }
    Run x = Run.of("priest 0 0");
    x.then("set 1 0", "change 0 2 0", "change 0 3 0", "cover 0");
    x.then("set 1 255", "change 0 2 255", "change 0 3 255", "cover 255");
    x.all(BEYOND, "set 1 -1", "priest 0 -1", "change 0 2 -1", "change 0 3 -1", "cover -1");
    x.all(BEYOND, "set 1 256", "priest 0 256", "change 0 2 256", "change 0 3 256", "cover 256");
  }

  static void ofSeveralTheLeastNumberCounts() {
    terms("of several that would do the least number counts, where nothing else is told.");
    Run x = Run.told("priest; priest; priest stuffed 5; priest stuffed 5");
    x.due("spare 3 9", 0).due("kindFor 3 9", 0).due("fast 9", 0).due("cover 1", 1).due("cover 255", 1);
    x.due("now 5", 2).due("goes 7", 0).due("dies 0", 1).due("dies 1", 0);
    // The sweet one is ill by 47 of 45, unless he fasts or the other does: then he hears a sin more and holds 50.
    x = Run.told("sweet takes 10 stuffed 13; priest takes 2; told 0 1 1; told 1 3 40");
    x.due("fast 2", 1);
    x = Run.told("priest takes 1; priest takes 2; priest takes 1; priest takes 2");
    x.due("cover 3", 3);
  }

  // ---- 1: what the object holds

  static void t1SinsAre0To7() {
    terms("1. SINS 0 to 7.");
    Run x = Run.of("priest 0 255");
    x.all(BEYOND, "goes -1", "goes 8", "goes MIN", "goes MAX", "out -1", "out 8", "out MIN", "out MAX");
    x.all(0, "goes 0", "goes 7");
    x.all(NONE, "out 0", "out 7");
    x.due("list 0 700", 0).due("list 0 0", 700).all(BEYOND, "list 0 800", "list 0 -100");
  }

  static void t1DayIs0AtFirst() {
    terms("DAY: 0 at first.");
    new Run().due("now 0", 0).due("count 0", 0).due("go 1", 0).due("now 0", 1).due("count 0", 1);
  }

  static void t1WaterIs0To9() {
    terms("WATER (0 to 9; 2 at first).");
    Run x = Run.of("priest 1 255");
    x.due("swells 0 140", 38).due("of 0 8", 7);
    x.due("set 0 9", 2).due("set 0 10", BEYOND).due("swells 0 140", 31).due("of 0 8", 14);
    x.due("set 0 0", 9).due("set 0 -1", BEYOND).due("swells 0 140", 40).due("of 0 8", 5);
  }

  static void t1TheListHasSixPlaces() {
    terms("THE LIST: six CONFESSIONS, one for DAY modulo 6:");
    Run x = Run.told("hungry; told 0 0 2; told 1 1 2; told 2 2 2; told 3 4 2; told 4 5 2; told 5 6 2");
    int[] sins = {0, 1, 2, 4, 5, 6};
    for (int day = 0; day < 13; day++) {
      x.then("change 0 3 0", "go 1").due("of 0 3", 1 << sins[day % 6]);
    }
    x.all(BEYOND, "listed 6", "listed -1", "list 6 0", "list -1 0");
  }

  static void t1WordsAre0To40() {
    terms("of a SIN, of so many WORDS (0 to 40; 0: none);");
    Run x = Run.of("priest 0 255");
    x.due("list 0 200", 0).due("list 0 199", BEYOND).due("list 0 240", 200).due("list 0 241", BEYOND);
    x.due("listed 0", 240);
    x.then("go 1").due("of 0 1", 35).due("of 0 4", 1);
    x.then("list 1 501", "go 1").due("of 0 3", 4 + 32).due("of 0 4", 2);
    // Of no words: none comes, nobody hears it, nobody keeps it.
    x.then("list 2 600", "go 1").due("of 0 3", 4 + 32).due("of 0 4", 2).due("now 2", 0);
  }

  static void t1AConfessionIsToldAsOneNumber() {
    terms("told as one number, 100 * SIN and WORDS together (0 at first).");
    Run x = new Run();
    for (int i = 0; i < 6; i++) {
      x.due("listed " + i, 0);
    }
    for (int sin = 0; sin < 8; sin++) {
      x.reads("told 3 " + sin + " 40").due("listed 3", 100 * sin + 40);
      x.reads("told 3 " + sin + " 0").due("listed 3", 100 * sin);
    }
  }

  static void t1OutIsNoneAtFirst() {
    terms("OUT: SINS that are known in town (a set; none at first).");
    Run x = new Run();
    x.due("now 1", 0).due("count 2", 0).due("out 0", NONE).due("out 7", NONE);
    x.due("set 1 255", 0).due("now 1", 255).due("count 2", 8).due("set 1 0", 255).due("now 1", 0);
  }

  static void t1KeptIs0AtFirst() {
    terms("KEPT (CONFESSIONS that nobody ate; 0 to 99999; 0 at first).");
    Run x = new Run();
    x.due("now 2", 0).due("count 3", 0);
    x.then("list 0 1").due("go 1", 0).due("now 2", 1).due("count 3", 1);
  }

  /** KEPT is never more than DAY, so that nothing shows more than that it comes as far as DAY does. */
  static void t1KeptIs99999AtMost() {
    terms("KEPT (CONFESSIONS that nobody ate; 0 to 99999; 0 at first).");
    terms("KEPT is 1 more (99999 at most).");
    Run x = Run.endless();
    for (int i = 0; i < 6; i++) {
      x.then("list " + i + " 740");
    }
    for (int i = 0; i < 500; i++) {
      x.then("go 60");
    }
    x.due("now 2", 30000).due("count 3", 30000);
    for (int i = 500; i < 1666; i++) {
      x.then("go 60");
    }
    x.then("go 39").due("now 2", 99999).due("count 3", 99999);
    x.due("go 1", STATE).due("now 2", 99999);
  }

  static void t1PriestsAreAtMostEight() {
    terms("PRIESTS 0, 1, .. (at most 8),");
    Run x = new Run();
    for (int p = 0; p < 8; p++) {
      x.due("of " + p + " 0", BEYOND).due("priest 0 255", p).due("of " + p + " 0", 0).due("count 1", p + 1);
    }
    x.all(FULL, "priest 0 255", "priest 6 0").due("count 1", 8).due("of 8 0", BEYOND);
  }

  static void t1KindsAreUnderKinds() {
    terms("of KINDS: 0 PRIEST; 1 CURATE, 2 ENVIOUS, 5 BISHOP under PRIEST; 3 SWEET under CURATE; 4 SAINT under SWEET; "
        + "6 HUNGRY under ENVIOUS;");
    Run x = Run.told("priest; curate; envious; sweet; saint; bishop; hungry");
    String[] upward = {"0", "10", "20", "310", "4310", "50", "620"};
    for (int kind = 0; kind < 7; kind++) {
      x.due("of " + kind + " 0", kind).then("hold " + kind + " " + kind);
      for (int above = 0; above < 7; above++) {
        x.due("as " + kind + " " + above, upward[kind].contains("" + above) ? kind : KIND);
      }
    }
    x.all(BEYOND, "priest 7 0", "priest -1 0");
  }

  static void t1StuffedIs0To999() {
    terms("each STUFFED (0 to 999; 0 at first),");
    heldBetween(1, 0, 999);
  }

  static void t1TakesIsASet() {
    terms("TAKES SINS (a set; 255 at first),");
    heldBetween(2, 255, 255);
  }

  static void t1KnowsIsASet() {
    terms("KNOWS SINS (a set; none at first),");
    heldBetween(3, 0, 255);
  }

  static void t1HeardIs0To9999() {
    terms("HEARD (how many; 0 to 9999; 0 at first),");
    heldBetween(4, 0, 9999);
  }

  static void t1IllIs0To9999() {
    terms("ILL (how often; 0 to 9999; 0 at first).");
    heldBetween(5, 0, 9999);
  }

  /** Of a priest whom a text tells by his kind alone. */
  private static void heldBetween(int what, int first, int most) {
    Run x = Run.told("bishop");
    String change = "change 0 " + what + " ";
    x.due("of 0 " + what, first);
    x.due(change + most, first).due(change + (most + 1), BEYOND).due(change + "MAX", BEYOND).due("of 0 " + what, most);
    x.due(change + 0, most).due(change + -1, BEYOND).due(change + "MIN", BEYOND).due("of 0 " + what, 0);
    x.due(change + (most - 1), 0).due(change + 1, most - 1).due("of 0 " + what, 1);
  }

  // ---- what he holds, swells, digests, keeps

  static void t1HoldsOfThoseWhoAlwaysHoldAlike() {
    terms("HOLDS (how STUFFED it can be): PRIEST: 60. CURATE: as a PRIEST, less 20.");
    Run x = Run.told("priest; curate; priest knows 255; curate knows 255");
    x.due("of 0 6", 60).due("of 1 6", 40).due("of 2 6", 60).due("of 3 6", 40);
  }

  static void t1HoldsOfTheSweet() {
    terms("SWEET: as a CURATE, and 5 for each SIN that it KNOWS. SAINT: twice a SWEET.");
    Run x = Run.told("sweet; saint; sweet knows 255; saint knows 255; sweet knows 128; saint knows 1");
    x.due("of 0 6", 40).due("of 1 6", 80).due("of 2 6", 80).due("of 3 6", 160).due("of 4 6", 45).due("of 5 6", 90);
  }

  static void t1HoldsOfTheEnvious() {
    terms("ENVIOUS: as a PRIEST, but half (cut), if it KNOWS no SIN. HUNGRY: as an ENVIOUS one, and 40.");
    Run x = Run.told("envious; hungry; envious knows 1; hungry knows 128; envious knows 255; hungry knows 255");
    x.due("of 0 6", 30).due("of 1 6", 70);
    x.due("of 2 6", 60).due("of 3 6", 100).due("of 4 6", 60).due("of 5 6", 100);
  }

  static void t1HoldsOfTheBishop() {
    terms("BISHOP: as a PRIEST, and HEARD, 99 at most together.");
    Run x = Run.told("bishop");
    x.due("of 0 6", 60);
    x.then("change 0 4 1").due("of 0 6", 61);
    x.then("change 0 4 38").due("of 0 6", 98);
    x.then("change 0 4 39").due("of 0 6", 99);
    x.then("change 0 4 40").due("of 0 6", 99);
    x.then("change 0 4 9999").due("of 0 6", 99);
  }

  static void t1SwellsOfThePriest() {
    terms("SWELLS (by a CONFESSION of a SIN, of so many WORDS): PRIEST: WORDS.");
    Run x = Run.told("priest knows 255");
    x.due("swells 0 0", 0).due("swells 0 1", 1).due("swells 0 40", 40).due("swells 0 700", 0).due("swells 0 740", 40);
  }

  static void t1SwellsOfTheCurateAreNeverBelow0() {
    terms("CURATE: as a PRIEST, less WATER (0 at least).");
    Run x = Run.told("curate");
    x.due("swells 0 100", 0).due("swells 0 101", 0).due("swells 0 102", 0).due("swells 0 103", 1);
    x.then("set 0 9").due("swells 0 108", 0).due("swells 0 109", 0).due("swells 0 110", 1).due("swells 0 140", 31);
    x.then("set 0 0").due("swells 0 100", 0).due("swells 0 101", 1);
  }

  static void t1SwellsOfTheSweet() {
    terms("SWEET: as a CURATE, and 5, if SIN is even. SAINT: as a SWEET.");
    Run x = Run.told("sweet; saint; water 9");
    for (int sin = 0; sin < 8; sin++) {
      int more = sin % 2 == 0 ? 5 : 0;
      for (int p = 0; p < 2; p++) {
        String swells = "swells " + p + " ";
        x.due(swells + 100 * sin, more).due(swells + (100 * sin + 8), more);
        x.due(swells + (100 * sin + 10), 1 + more).due(swells + (100 * sin + 40), 31 + more);
      }
    }
  }

  static void t1SwellsOfTheEnvious() {
    terms("ENVIOUS: as a PRIEST, but a third (cut), if SIN is 3. HUNGRY: half (cut) of an ENVIOUS one.");
    Run x = Run.told("envious; hungry");
    x.due("swells 0 240", 40).due("swells 0 440", 40).due("swells 0 340", 13).due("swells 0 302", 0);
    x.due("swells 1 240", 20).due("swells 1 440", 20).due("swells 1 340", 6).due("swells 1 305", 0);
    x.due("swells 1 201", 0).due("swells 1 239", 19);
  }

  static void t1SwellsOfTheBishop() {
    terms("BISHOP: as a PRIEST, and 10, if it KNOWS that SIN already.");
    Run x = Run.told("bishop knows 129");
    x.due("swells 0 0", 10).due("swells 0 740", 50).due("swells 0 140", 40).due("swells 0 640", 40);
    x.then("change 0 3 126").due("swells 0 40", 40).due("swells 0 740", 40).due("swells 0 140", 50);
  }

  static void t1Digests() {
    terms("DIGESTS (in a DAY): PRIEST: 5. CURATE: as a PRIEST, and WATER.");
    terms("SAINT: 1. ENVIOUS: as a PRIEST, and 3. HUNGRY: twice an ENVIOUS one.");
    Run x = Run.told("priest; curate; saint; envious; hungry");
    for (int water : new int[] {0, 9}) {
      x.then("set 0 " + water);
      x.due("of 0 8", 5).due("of 1 8", 5 + water).due("of 2 8", 1).due("of 3 8", 8).due("of 4 8", 16);
    }
  }

  /** A curate digests 5 or more, so 2 is the least that a sweet one does; 0 is never come to. */
  static void t1DigestsOfTheSweet() {
    terms("SWEET: as a CURATE, less 3 (0 at least).");
    Run x = Run.told("sweet");
    x.then("set 0 0").due("of 0 8", 2).then("set 0 1").due("of 0 8", 3).then("set 0 9").due("of 0 8", 11);
  }

  static void t1DigestsOfTheBishop() {
    terms("BISHOP: 0, if DAY leaves 6 by 7, else as a PRIEST.");
    Run x = Run.told("bishop");
    for (int day = 0; day < 22; day++) {
      x.due("of 0 8", day == 6 || day == 13 || day == 20 ? 0 : 5).then("go 1");
    }
  }

  static void t1Keeps() {
    terms("KEEPS (whether it says nothing when it is ILL): SAINT: yes. BISHOP: if it KNOWS fewer than 4 SINS. "
        + "All others: no.");
    Run x = Run.told("priest; curate; envious; sweet; saint; bishop; hungry");
    int[] some = {0, 128, 7, 15, 240, 31, 255};
    int[] bishops = {1, 1, 1, 0, 0, 0, 0};
    for (int i = 0; i < some.length; i++) {
      for (int p = 0; p < 7; p++) {
        x.then("change " + p + " 3 " + some[i]);
        x.due("of " + p + " 9", p == SAINT ? 1 : p == BISHOP ? bishops[i] : 0);
      }
    }
  }

  // ---- 2: a day goes by

  static void t2OnlyAConfessionOf1WordOrMoreComes() {
    terms("2. A DAY goes by: (1) the CONFESSION of THE LIST for DAY modulo 6, if it is of 1 WORD or more:");
    // A sweet one would swell by 5 even of no words, a bishop by 10.
    Run x = Run.told("sweet; told 0 2 0; told 1 2 1; told 5 7 1");
    x.then("go 1").due("of 0 1", 0).due("of 0 3", 0).due("of 0 4", 0).due("now 2", 0);
    x.then("go 1").due("of 0 1", 1).due("of 0 3", 4).due("of 0 4", 1);
    x.then("go 3").due("of 0 4", 1).then("go 1").due("of 0 4", 2).due("of 0 3", 4 + 128);
    x = Run.told("bishop knows 4 stuffed 60; told 0 2 0");
    x.then("go 1").due("of 0 5", 0).due("of 0 1", 55);
    x = Run.told("told 0 0 0; told 1 0 1");
    x.then("go 1").due("now 2", 0).then("go 1").due("now 2", 1);
  }

  static void t2ItGoesToMostRoom() {
    terms("it goes to the PRIEST who TAKES its SIN and has most ROOM (HOLDS less STUFFED; of several the least number), "
        + "also if that is below 0;");
    Run x = Run.told("priest takes 254; curate; priest stuffed 19; priest stuffed 20; told 0 0 1");
    x.due("goes 0", 2).then("go 1").due("of 2 4", 1).due("of 0 4", 0);
    // Of 40 each, the least number.
    x = Run.told("priest stuffed 20; curate; priest stuffed 20; told 0 0 1");
    x.due("goes 0", 0).then("go 1").due("of 0 4", 1).due("of 1 4", 0).due("of 2 4", 0);
    // -1, 0 and 1: of those who take it the one with -1, though he falls ill by it.
    x = Run.told("priest takes 0 stuffed 60; priest takes 1 stuffed 61; priest takes 0 stuffed 59; told 0 0 1");
    x.due("goes 0", 1).then("go 1").due("of 1 4", 1).due("of 1 5", 1).due("now 1", 1).due("now 2", 0);
    // -939 each; then -959, and -969 of an envious one who knows nothing.
    x = Run.told("priest stuffed 999; envious knows 2 stuffed 999; curate stuffed 979; told 0 0 1");
    x.due("goes 0", 0).then("change 0 0 1").due("goes 0", 1).then("change 1 3 0").due("goes 0", 2);
  }

  static void t2WhatNobodyTakesIsKept() {
    terms("if nobody TAKES it: KEPT is 1 more (99999 at most).");
    Run x = Run.told("priest takes 254; told 0 0 40; told 1 1 40; told 2 0 1; told 3 0 0");
    x.then("go 1").due("now 2", 1).due("of 0 4", 0).due("of 0 3", 0).due("of 0 1", 0);
    x.then("go 1").due("now 2", 1).due("of 0 4", 1).then("go 1").due("now 2", 2).then("go 1").due("now 2", 2);
    x.then("go 6").due("now 2", 4);
  }

  /**
   * Nobody holds more than 160, so who is stuffed by 999 and swells falls ill on that day: no call shows that it was
   * 999 and not more.
   */
  static void t2HeSwellsKnowsAndHasHeard() {
    terms("He is STUFFED by what he SWELLS more (999 at most), KNOWS the SIN, HEARD is 1 more (9999 at most).");
    Run x = Run.told("saint knows 255 stuffed 999; told 0 0 40; told 1 0 40; told 2 7 40");
    x.then("go 1").due("of 0 1", 0).due("of 0 5", 1).due("of 0 4", 1).due("of 0 3", 0);
    x.then("go 1").due("of 0 1", 42).due("of 0 3", 1).due("of 0 4", 2);
    x.then("change 0 4 9998", "go 1").due("of 0 1", 79).due("of 0 3", 129).due("of 0 4", 9999);
    x.then("list 3 2", "go 1").due("of 0 4", 9999).then("list 4 2", "go 1").due("of 0 4", 9999);
  }

  static void t2StuffedByMoreThanHeHolds() {
    terms("(2) PRIESTS by numbers: one STUFFED by more than he HOLDS falls ILL:");
    Run x = Run.told("priest stuffed 60; curate stuffed 40; envious stuffed 30; sweet stuffed 40; saint stuffed 80",
        "bishop stuffed 60; hungry stuffed 70");
    x.then("go 1").due("now 6", 0);
    x = Run.told("priest stuffed 61; curate stuffed 41; envious stuffed 31; sweet stuffed 41; saint stuffed 81",
        "bishop stuffed 61; hungry stuffed 71");
    x.then("go 1").due("now 6", 7);
    // What he eats on that day counts: 20 and 40 are what he holds, 21 and 40 are more.
    x = Run.told("priest takes 1 stuffed 20; priest takes 2 stuffed 21; told 0 0 40; told 1 1 40");
    x.then("go 1").due("of 0 5", 0).due("of 0 1", 55);
    x.then("change 1 1 21", "go 1").due("of 1 5", 1).due("of 1 1", 0);
    // So does what he knows and has heard by then: 45, 60 and 61 are held.
    x = Run.told("sweet takes 2 stuffed 7; envious takes 4 stuffed 20; bishop takes 8 stuffed 21; "
        + "told 0 1 40; told 1 2 40; told 2 3 40");
    x.then("go 1").due("of 0 5", 0);
    x.then("change 1 1 20", "go 1").due("of 1 5", 0);
    x.then("change 2 1 21", "go 1").due("of 2 5", 0).due("of 2 1", 56);
    x = Run.told("sweet takes 2 stuffed 8; told 0 1 40");
    x.then("go 1").due("of 0 5", 1);
  }

  static void t2WhatHeKnowsIsOutToo() {
    terms("unless he KEEPS, what he KNOWS is OUT, too;");
    Run x = Run.told("out 128; priest knows 3 stuffed 61; curate knows 4 stuffed 41");
    x.due("go 1", 128 + 7);
    // A saint never tells, a bishop does from 4 sins on; of nothing known nothing is out.
    x = Run.told("saint knows 255 stuffed 999");
    x.due("go 1", 0).due("of 0 5", 1);
    x = Run.told("bishop knows 56 stuffed 999");
    x.due("go 1", 0).due("of 0 5", 1);
    x = Run.told("bishop knows 57 stuffed 999");
    x.due("go 1", 57).due("of 0 5", 1);
    x = Run.told("priest stuffed 999");
    x.due("go 1", 0).due("of 0 5", 1);
    // The sin that he eats on that day is the 4th.
    x = Run.told("bishop knows 56 stuffed 60; told 0 0 40");
    x.due("go 1", 57);
    x = Run.told("bishop knows 56 stuffed 60; told 0 3 40");
    x.due("go 1", 0);
  }

  static void t2WhoWasIllBeginsAnew() {
    terms("he KNOWS nothing any more, is STUFFED by 0, ILL is 1 more (9999 at most).");
    for (String kind : new String[] {"priest", "curate", "envious", "sweet", "saint", "bishop", "hungry"}) {
      Run x = Run.told(kind + " takes 9 knows 255 stuffed 999");
      x.then("change 0 4 7", "go 1");
      x.due("of 0 3", 0).due("of 0 1", 0).due("of 0 5", 1).due("of 0 2", 9).due("of 0 4", 7);
      x.then("change 0 5 9998", "change 0 1 999", "go 1").due("of 0 5", 9999);
      x.then("change 0 3 1", "change 0 1 999", "go 1").due("of 0 5", 9999).due("of 0 3", 0).due("of 0 1", 0);
    }
    // On a day on which he digests nothing it is seen that 0 is what the illness left.
    Run x = Run.told("bishop").then("go 6", "change 0 1 999").due("of 0 8", 0).then("go 1").due("of 0 1", 0);
    x.due("of 0 5", 1);
  }

  static void t2DigestedIsNeverBelow0() {
    terms("(3) PRIESTS: STUFFED is what each DIGESTS less (0 at least).");
    Run x = Run.told("priest stuffed 4; curate stuffed 6; envious stuffed 7; sweet stuffed 3; saint",
        "bishop stuffed 4; hungry stuffed 15");
    x.then("go 1").due("now 4", 0).due("now 6", 0);
    x = Run.told("priest stuffed 5; curate stuffed 7; envious stuffed 8; sweet stuffed 4; saint stuffed 1",
        "bishop stuffed 5; hungry stuffed 16");
    x.then("go 1").due("now 4", 0).due("now 6", 0);
    x = Run.told("priest stuffed 6; curate stuffed 8; envious stuffed 9; sweet stuffed 5; saint stuffed 2",
        "bishop stuffed 6; hungry stuffed 17");
    x.then("go 1");
    for (int p = 0; p < 7; p++) {
      x.due("of " + p + " 1", 1);
    }
    // The bishop's sixth day: he digests by the day that goes by, not by the next.
    x = Run.told("bishop").then("go 5", "change 0 1 50", "go 1");
    x.due("of 0 1", 45).then("go 1").due("of 0 1", 45).then("go 1").due("of 0 1", 40);
  }

  static void t2DayIsOneMore() {
    terms("DAY is one more (99999 at most).");
    new Run().then("go 1").due("now 0", 1).then("go 60").due("now 0", 61);
    // On day 99999 place 3 comes (99999 leaves 3 by 6), and it comes again as the day stays: 2 words each day.
    Run x = onTheLastDay();
    x.due("now 0", 99999).then("priest 6 255", "list 3 102", "list 4 202");
    x.due("ahead 0 4 1", 1).due("ahead 0 4 2", 2).due("ahead 0 4 100", 100).due("ahead 0 3 100", 2);
    x.due("wise 0 1", 1).due("wise 0 2", NONE).due("now 0", 99999);
  }

  // ---- draws

  static void drawsWrapAround() {
    terms("DRAWS: z is told (1 at first); each makes it z * 1103515245 + 12345 (an int), and gives z >>> 8.");
    // Two draws each: from 1 to 1103527590 (4310654: sin 6) and 2524885223 - 2^32 (9862832: 36 words).
    Run x = new Run();
    x.due("count 6", 1).then("come 1").due("listed 0", 636).due("count 6", -1770082073);
    // From 0: 12345 (48: sin 0), then 3554416254 - 2^32 (13884438: 34 words).
    x.due("seed 0", -1770082073).then("come 1").due("listed 1", 34).due("count 6", -740551042);
    drawFrom(-1);
    drawFrom(Integer.MAX_VALUE);
    drawFrom(Integer.MIN_VALUE);
    drawFrom(BEYOND);
    drawFrom(123456789);
  }

  /** The same in longs, whose rest by 2^32 is taken. */
  private static void drawFrom(int seed) {
    long z = seed & 0xffffffffL;
    Run x = Run.of("seed " + seed);
    for (int day = 0; day < 6; day++) {
      z = (z * 1103515245L + 12345L) % (1L << 32);
      long sin = z / 256 % 8;
      z = (z * 1103515245L + 12345L) % (1L << 32);
      x.then("come 1").due("listed " + day, 100 * sin + z / 256 % 41).due("count 6", (int) z);
    }
  }

  // ---- 3: texts

  static void t3TheTapeHasAtMost120Bytes() {
    terms("3. A TEXT is read from THE TAPE (bytes, at most 120).");
    Run x = new Run();
    for (int i = 1; i <= 30; i++) {
      x.due("feed 0 4", 4 * i);
    }
    x.due("feed 0 1", FULL).due("feed 0 4", FULL).due("count 5", 120).due("wipe", 120).due("feed 0 1", 1);
    String blanks = " ".repeat(113);
    x.then("wipe").reads(blanks + "out 255", 1).due("now 1", 255);
    x.reads(blanks.substring(1) + "out  254", 1).due("now 1", 254);
    x.reads("out 253" + blanks, 1).due("now 1", 253);
    x.reads(blanks + "out 25;", -121).due("now 1", 253);
    x.reads(" ".repeat(120), -121).reads("a".repeat(120), -1).reads("1".repeat(120), -1).reads(";".repeat(120), -1);
    x.reads("water " + "0".repeat(113) + "7", 1).due("set 0 7", 7);
  }

  static void t3TokensAreAsLongAsCanBe() {
    terms("TOKENS, each as long as can be: WORDS (letters a to z), NUMBERS (digits, 9999 at most), SIGN ; ; "
        + "blanks may stand between.");
    Run x = new Run();
    x.reads("out12", 1).due("now 1", 12).reads("out  1  ;  out  3  ", 1 + 1).due("now 1", 3);
    x.reads("outt 1", -1).reads("ou t 1", -1).reads("o", -1).reads("out 1 2", -7).reads("out 25 5", -8);
    x.reads("outwater 1", -1).reads("told 0 0 1;told 000 007 0040", 2).due("listed 0", 740);
    x.reads("told 001", -9).reads("told 0 0 00", 1).due("listed 0", 0);
    x.reads("out 9999", -5).reads("out 10000", -5).reads("out 99999999999", -5).reads("out 0000000255", 1);
    // What would be 255 or 0 if it were cut to an int or to a long.
    x.reads("out 4294967551", -5).reads("out 18446744073709551871", -5).reads("out 4294967296", -5);
    x.reads("out 65791", -5).due("now 1", 255);
    x.reads("priest takes3knows4stuffed5;curate", 2).due("of 0 1", 5).due("count 1", 2);
  }

  static void t3BlanksMayStandAboutAnyToken() {
    terms("blanks may stand between.");
    Run x = new Run();
    x.reads("   out   5   ;   water   3   ", 2).due("now 1", 5).due("set 0 3", 3);
    x.reads("out 6;water 4", 2).due("now 1", 6).due("set 0 4", 4);
    x.reads("out 7\t", -6).reads("\tout 7", -1).reads("out\n7", -4).reads("out\r7", -4).reads("out\u00a07", -4);
    x.reads("out\u00007", -4).due("now 1", 6);
  }

  /** Every byte alone and every byte behind a number. */
  static void t3EachByteBeginsATokenOrNone() {
    terms("a byte that begins no TOKEN,");
    for (int b = 0; b < 256; b++) {
      boolean letter = b >= 'a' && b <= 'z';
      boolean digit = b >= '0' && b <= '9';
      Run x = Run.told("out 9");
      x.reads("" + (char) b, b == ' ' ? -2 : -1);
      x.reads("out 1" + (char) b, b == ' ' || digit ? 1 : b == ';' ? -7 : -6);
      x.due("now 1", b == ' ' ? 1 : digit ? 10 + b - '0' : 9);
      x.reads("out " + (char) b, b == ' ' ? -6 : digit ? 1 : -5);
      x.reads("out" + (char) b, b == ' ' ? -5 : letter ? -1 : digit ? 1 : -4);
    }
  }

  static void t3ATextHasOneItemOrMore() {
    terms("TEXT: ITEM { ; ITEM }.");
    Run x = new Run();
    x.reads("", -1).reads(" ", -2).reads("out 1", 1).reads("out 1;out 2", 2).reads("out 1;out 2;out 3", 3);
    x.reads("out 1;", -7).reads("out 1; ", -8).reads(";out 1", -1).reads("out 1;;out 1", -7).reads("out 1 out 2", -7);
    StringBuilder most = new StringBuilder("out7");
    for (int i = 2; i <= 24; i++) {
      most.append(";out").append(i % 10);
    }
    x.reads(most.toString(), 24).due("now 1", 4).reads(most + ";", -121).due("now 1", 4);
  }

  static void t3APriestIsTold() {
    terms("ITEM: priest, curate, envious, sweet, saint, bishop or hungry, perhaps takes and a NUMBER (0 to 255), "
        + "perhaps knows and a NUMBER (0 to 255), perhaps stuffed and a NUMBER (0 to 999): a new one;");
    Run x = new Run();
    x.reads("priest;curate;envious;sweet;saint;bishop;hungry", 7);
    for (int p = 0; p < 7; p++) {
      x.due("of " + p + " 0", p).due("of " + p + " 1", 0).due("of " + p + " 2", 255).due("of " + p + " 3", 0);
    }
    x = new Run();
    x.reads("saint takes 0 knows 0 stuffed 0;saint takes 255 knows 255 stuffed 999", 2);
    x.due("of 0 2", 0).due("of 0 3", 0).due("of 0 1", 0).due("of 1 2", 255).due("of 1 3", 255).due("of 1 1", 999);
    x.reads("saint takes 1 stuffed 2;saint knows 3;saint knows 4 stuffed 5;saint stuffed 6", 4);
    x.due("of 2 2", 1).due("of 2 3", 0).due("of 2 1", 2).due("of 3 3", 3).due("of 4 1", 5).due("of 5 1", 6);
    x.due("of 5 2", 255).due("of 5 4", 0).due("of 5 5", 0);
    x.reads("saint takes 256", -13).reads("saint knows 256", -13).reads("saint stuffed 1000", -15);
    x.reads("saint takes", -12).reads("saint takes ", -13).reads("saint takes;", -12).reads("saint takes knows 1", -13);
    x.reads("saint knows 1 takes 1", -15).reads("saint stuffed 1 knows 1", -17).reads("saint takes 1 takes 1", -15);
    x.reads("saint 1", -7).reads("saint saint", -7).reads("saints", -1).reads("takes 1", -1).due("count 1", 6);
  }

  static void t3TheListIsTold() {
    terms("told, three NUMBERS (a place of THE LIST, 0 to 5, a SIN, 0 to 40: WORDS);");
    Run x = new Run();
    x.reads("told 0 0 40;told 5 7 0;told 3 7 40", 3).due("listed 0", 40).due("listed 5", 700).due("listed 3", 740);
    x.reads("told 6 0 0", -6).reads("told 0 8 0", -8).reads("told 0 0 41", -10);
    x.reads("told", -5).reads("told 1", -7).reads("told 1 1", -9).reads("told 1 1 ", -10).reads("told 1 1 1 1", -12);
    x.reads("told ;", -6).reads("told 1;", -7).reads("told 1 1;", -9).reads("told out 1", -6);
    x.due("listed 1", 0).due("listed 0", 40).reads("told 0 0 0", 1).due("listed 0", 0);
  }

  static void t3WaterIsTold() {
    terms("water, a NUMBER (0 to 9);");
    Run x = new Run();
    x.reads("water 0", 1).due("set 0 0", 0).reads("water 9", 1).due("set 0 9", 9).reads("water 10", -7);
    x.reads("water", -6).reads("water ", -7).reads("water;", -6).reads("water 1 1", -9).reads("water out", -7);
    x.due("set 0 9", 9);
  }

  static void t3OutIsTold() {
    terms("out, a NUMBER (0 to 255).");
    Run x = new Run();
    x.reads("out 255", 1).due("now 1", 255).reads("out 0", 1).due("now 1", 0).reads("out 256", -5);
    x.reads("out", -4).reads("out ", -5).reads("out;", -4).reads("out 1 1", -7).reads("out -1", -5).due("now 1", 0);
  }

  static void t3TheFaultIsAPlace() {
    terms("FAULT: the place (from 0) of the first byte of the first TOKEN that can't stand there (a NUMBER that isn't as "
        + "told, another WORD, a byte that begins no TOKEN, the WORD of a 9th PRIEST: its own), or how many bytes there "
        + "are if it ends too early.");
    Run x = new Run();
    x.reads("5", -1).reads("  5", -3).reads("out 1; 5", -8).reads("out 256 #", -5).reads("out # 256", -5);
    x.reads("saint; nun", -8).reads("saint;saint #", -13).reads("out 1 #;#", -7).reads("#", -1);
    x.reads("saint takes", -12).reads("saint takes   ", -15).reads("saint;", -7).reads("saint ;   ", -11);
    x.due("count 1", 0).due("status -1", 0);
    x.reads("saint;saint;saint;saint;saint;saint;saint;saint;saint", -49).due("count 1", 0);
    x.reads("saint;saint;saint;saint;saint;saint;saint;saint", 8).due("count 1", 8);
    x.reads("hungry takes 256", -1).reads("out 1;  hungry", -9).reads("out 256;hungry", -5).reads("hungrier", -1);
    x.reads("out 3", 1).due("now 1", 3);
  }

  // ---- spots, sheets

  static void spotsAre0To9() {
    terms("SPOTS 0 to 9 hold a PRIEST or nothing (at first).");
    Run x = Run.told("priest; saint");
    for (int spot = 0; spot < 10; spot++) {
      x.due("as " + spot + " 0", MISSING).due("hold " + spot + " 1", 1).due("as " + spot + " 0", 1);
      x.due("count 7", spot + 1);
    }
    x.all(BEYOND, "hold 10 0", "hold -1 0", "as 10 0", "as -1 0");
    for (int spot = 0; spot < 10; spot++) {
      x.due("hold " + spot + " -1", 1).due("as " + spot + " 0", MISSING).due("count 7", 9 - spot);
    }
  }

  static void sheetsAre0To3() {
    terms("SHEETS 0 to 3: rows of at most 40 numbers of 8, 16 or 32 bits (told with their sign: of 8 bits 255 is -1), or "
        + "MISSING (at first).");
    Run x = Run.told("priest stuffed 7");
    for (int s = 0; s < 4; s++) {
      x.due("judge " + s, MISSING).due("sheet " + s + " 8 40", 40).due("judge " + s, 2);
      x.due("write " + s + " 39 1", 1).due("write " + s + " 40 1", BEYOND).due("sheet " + s + " 8 41", BEYOND);
    }
    x.all(BEYOND, "sheet 4 8 1", "sheet -1 8 1", "judge 4", "judge -1");
    // What a number is, told by load and by fits: -1 is any, and of these 7 alone is how stuffed he is.
    numberIs(8, 255, -1);
    numberIs(8, 128, -128);
    numberIs(8, 127, 127);
    numberIs(8, 256 + 7, 7);
    numberIs(8, -256, 0);
    numberIs(16, 255, 255);
    numberIs(16, 32767, 32767);
    numberIs(16, 32768, -32768);
    numberIs(16, 65535, -1);
    numberIs(16, 65536 + 740, 740);
    numberIs(16, -65536, 0);
    numberIs(32, 65535, 65535);
    numberIs(32, 65536, 65536);
    numberIs(32, -1, -1);
    numberIs(32, Integer.MIN_VALUE, Integer.MIN_VALUE);
    numberIs(32, Integer.MAX_VALUE, Integer.MAX_VALUE);
  }

  /** As fits (-1: any), judge (what is known) and load (a confession) see it. */
  private static void numberIs(int bits, int written, int told) {
    Run x = Run.told("priest").sheet(0, bits, written);
    int stuffed = told >= 0 && told <= 999 ? told : 999;
    x.then("change 0 1 " + stuffed).due("fits 0 0", told == -1 || told == stuffed ? 41 : 0);
    int knows = told >= 0 && told <= 255 ? told : 255;
    x.then("change 0 3 " + knows).due("judge 0", told == knows ? 0 : 1);
    boolean confession = told >= 0 && told <= 740 && told % 100 <= 40;
    x.due("load 0", confession ? 1 : 0).due("listed 0", confession ? told : 0);
  }
}
