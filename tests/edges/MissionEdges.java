import java.util.List;

/** Promises 1 to 10: a new object, what is set and listed, and the priests. */
final class MissionEdges extends Edge {

  // ---- promise 1

  static void p01AllIsAsAtFirst() {
    promise(1, "All as at first; no PRIESTS; THE TAPE is empty, no image is kept.");
    Run x = new Run();
    x.due("now 0", 0).due("now 1", 0).due("now 2", 0).due("now 3", 0).due("now 4", 0).due("now 5", -1).due("now 6", 0);
    x.due("now 7", 255).due("count 1", 0).due("count 5", 0).due("count 6", 1).due("count 7", 0).due("of 0 0", BEYOND);
    for (int i = 0; i < 6; i++) {
      x.due("listed " + i, 0);
    }
    for (int which = -1; which < 7; which++) {
      x.due("status " + which, which < 1 ? 1 : 0);
    }
    x.due("wipe", 0).due("tear", 0).due("undo", NONE).due("set 0 2", 2).due("text", -1);
    x.all(MISSING, "judge 0", "judge 1", "judge 2", "judge 3", "as 0 0", "as 9 0");
  }

  static void p01ObjectsShareNothing() {
    promise(1, "All as at first;");
    Run fresh = new Run();
    List<String> first = new Run().looks();
    Run.told("priest; saint knows 3 stuffed 9; told 0 1 2; water 9; out 7").sheet(0, 8, 1)
        .then("hold 0 0", "image", "seed 9", "go 60", "feed 0 4");
    due("looks at an object made before", fresh.looks(), first);
    due("looks at an object made behind", new Run().looks(), first);
  }

  // ---- promise 2

  static void p02WaterIsSet() {
    promise(2, "WATER (what 0), OUT (1; a set) becomes v: what it was.", "BEYOND.");
    Run x = new Run();
    x.due("set 0 0", 2).due("set 0 9", 0).all(BEYOND, "set 0 -1", "set 0 10", "set 0 MIN", "set 0 MAX", "set 0 255");
    x.due("set 0 5", 9).due("set 0 5", 5).due("now 1", 0);
  }

  static void p02OutIsSet() {
    promise(2, "WATER (what 0), OUT (1; a set) becomes v: what it was.", "BEYOND.");
    Run x = new Run();
    x.due("set 1 0", 0).due("set 1 255", 0).all(BEYOND, "set 1 -1", "set 1 256", "set 1 MIN", "set 1 MAX");
    x.due("now 1", 255).due("set 1 129", 255).due("now 1", 129).due("set 1 2", 129).due("now 1", 2);
    x.due("set 0 2", 2);
  }

  static void p02NothingElseIsSet() {
    promise(2, "BEYOND.");
    Run x = new Run();
    x.all(BEYOND, "set -1 0", "set 2 0", "set MIN 0", "set MAX 0", "set 256 1", "set -1 -1", "set 2 256");
    x.due("set 0 2", 2).due("set 1 0", 0).due("status 0", 7);
  }

  // ---- promise 3

  static void p03PlacesAre0To5() {
    promise(3, "THE LIST tells in place i (0 to 5) a CONFESSION (100 * SIN and WORDS; another number is none): which it "
        + "was.", "BEYOND.");
    Run x = new Run();
    for (int i = 0; i < 6; i++) {
      x.due("list " + i + " " + (101 + i), 0).due("listed " + i, 101 + i);
    }
    x.all(BEYOND, "list -1 0", "list 6 0", "list MIN 0", "list MAX 0");
    for (int i = 0; i < 6; i++) {
      x.due("list " + i + " 0", 101 + i).due("listed " + i, 0);
    }
  }

  static void p03ConfessionsAreOfEachSinAndUpTo40Words() {
    promise(3, "(100 * SIN and WORDS; another number is none)", "BEYOND.");
    for (int sin = 0; sin < 8; sin++) {
      Run x = new Run();
      int none = 100 * sin;
      x.due("list 2 " + none, 0).due("list 2 " + (none + 1), none).due("list 2 " + (none + 40), none + 1);
      x.all(BEYOND, "list 2 " + (none + 41), "list 2 " + (none + 42), "list 2 " + (none + 99), "list 2 " + (none - 1));
      x.due("listed 2", none + 40);
    }
  }

  static void p03AnotherNumberIsNone() {
    promise(3, "another number is none", "BEYOND.");
    Run x = Run.of("list 0 320");
    x.all(BEYOND, "list 0 -1", "list 0 -59", "list 0 -60", "list 0 -99", "list 0 -100", "list 0 -700", "list 0 -740");
    x.all(BEYOND, "list 0 741", "list 0 799", "list 0 800", "list 0 801", "list 0 840", "list 0 1000", "list 0 MIN");
    // Of these the rest by 100 is 0 to 40: 21474836 and 655 are no sins.
    x.all(BEYOND, "list 0 2147483640", "list 0 2147483600", "list 0 -2147483600", "list 0 65536", "list 0 MAX");
    x.due("listed 0", 320);
  }

  // ---- promise 4

  static void p04PlacesAre0To5() {
    promise(4, "The CONFESSION in a place of THE LIST.", "BEYOND.");
    Run x = Run.of("list 0 1", "list 5 740");
    x.due("listed 0", 1).due("listed 5", 740).due("listed 1", 0).due("listed 4", 0);
    x.all(BEYOND, "listed -1", "listed 6", "listed MIN", "listed MAX").due("status 0", 4);
    // It is told as it stands, whatever day it is.
    x.then("go 4").due("listed 0", 1).due("listed 5", 740);
  }

  // ---- promise 5

  static void p05KindsAre0To6() {
    promise(5, "A new PRIEST who TAKES a set of SINS: the number.", "BEYOND.");
    Run x = new Run();
    x.all(BEYOND, "priest -1 0", "priest 7 0", "priest MIN 0", "priest MAX 0").due("count 1", 0);
    for (int kind = 0; kind < 7; kind++) {
      x.due("priest " + kind + " 9", kind).due("of " + kind + " 0", kind);
    }
    x.all(BEYOND, "priest -1 0", "priest 7 0").due("count 1", 7);
  }

  static void p05SinsAreASet() {
    promise(5, "A new PRIEST who TAKES a set of SINS: the number.", "BEYOND.");
    Run x = new Run();
    x.all(BEYOND, "priest 0 -1", "priest 0 256", "priest 0 MIN", "priest 0 MAX").due("count 1", 0);
    x.due("priest 0 0", 0).due("priest 0 255", 1).due("priest 0 1", 2).due("priest 0 128", 3);
    x.due("of 0 2", 0).due("of 1 2", 255).due("of 2 2", 1).due("of 3 2", 128);
  }

  static void p05TheNinthIsOneTooMany() {
    promise(5, "FULL.");
    Run x = new Run();
    for (int p = 0; p < 8; p++) {
      x.due("priest 0 255", p);
    }
    x.due("priest 0 255", FULL).due("count 1", 8);
    // The dead keep their numbers.
    x.then("dies 7", "dies 0").due("priest 0 255", FULL).due("status 1", 2);
    // What is behind all bounds is asked first.
    x.all(BEYOND, "priest 7 255", "priest -1 255", "priest 0 256", "priest 0 -1").due("status 1", 2);
  }

  static void p05WhoComesAfterUndoIsNew() {
    promise(5, "A new PRIEST who TAKES a set of SINS: the number.", "FULL.");
    Run x = Run.of("priest 0 1", "image");
    for (int p = 1; p < 8; p++) {
      x.then("priest 5 255", "change " + p + " 1 999", "change " + p + " 3 255", "change " + p + " 4 9999",
          "change " + p + " 5 9999");
    }
    x.due("priest 0 0", FULL).then("undo").due("priest 2 6", 1);
    int[] told = {2, 0, 6, 0, 0, 0, 30, 30, 8, 0};
    for (int what = 0; what < 10; what++) {
      x.due("of 1 " + what, told[what]);
    }
  }

  // ---- promise 6

  static void p06WhatIs0To9() {
    promise(6, "Of a PRIEST: what 0 KIND, 1 STUFFED, 2 TAKES, 3 KNOWS, 4 HEARD, 5 ILL, 6 HOLDS, 7 ROOM (may be below 0), "
        + "8 DIGESTS, 9 KEEPS (1, 0).", "BEYOND.");
    Run x = Run.of("priest 4 9", "change 0 1 999", "change 0 3 255", "change 0 4 9999", "change 0 5 9998");
    int[] told = {4, 999, 9, 255, 9999, 9998, 160, -839, 1, 1};
    for (int what = 0; what < 10; what++) {
      x.due("of 0 " + what, told[what]);
    }
    x.all(BEYOND, "of 0 -1", "of 0 10", "of 0 MIN", "of 0 MAX");
  }

  static void p06RoomMayBeBelow0() {
    promise(6, "7 ROOM (may be below 0),");
    Run x = Run.told("envious stuffed 999; priest stuffed 60; priest stuffed 61; priest stuffed 59; saint knows 255");
    x.due("of 0 7", -969).due("of 1 7", 0).due("of 2 7", -1).due("of 3 7", 1).due("of 4 7", 160);
    x.due("status -1", 0);
  }

  static void p06PriestsAreThoseWhoCame() {
    promise(6, "BEYOND.");
    Run x = new Run();
    x.all(BEYOND, "of 0 0", "of -1 0", "of 0 9", "of MIN 0", "of MAX 0");
    for (int p = 0; p < 8; p++) {
      x.due("of " + p + " 0", BEYOND).due("priest 0 255", p).due("of " + p + " 0", 0);
    }
    x.all(BEYOND, "of 8 0", "of -1 0", "of MAX 0");
  }

  // ---- promise 7

  static void p07EachIsChangedWithinItsBounds() {
    promise(7, "KIND (what 0), STUFFED (1), TAKES (2), KNOWS (3), HEARD (4), ILL (5) of a PRIEST becomes v: what it was.",
        "BEYOND.");
    int[] first = {SWEET, 5, 7, 9, 0, 0};
    int[] most = {6, 999, 255, 255, 9999, 9999};
    for (int what = 0; what < 6; what++) {
      Run x = Run.told("priest; sweet takes 7 knows 9 stuffed 5; priest");
      String change = "change 1 " + what + " ";
      x.due(change + most[what], first[what]).due(change + 0, most[what]).due(change + most[what], 0);
      x.all(BEYOND, change + -1, change + (most[what] + 1), change + "MIN", change + "MAX");
      for (int other = 0; other < 6; other++) {
        x.due("of 1 " + other, other == what ? most[what] : first[other]);
      }
      x.due("of 0 " + what, what == 2 ? 255 : 0).due("of 2 " + what, what == 2 ? 255 : 0);
    }
  }

  static void p07WhatIs0To5() {
    promise(7, "BEYOND.");
    Run x = Run.told("priest knows 3 stuffed 7");
    for (int what : new int[] {-1, 6, 7, 8, 9, 10, Integer.MIN_VALUE, Integer.MAX_VALUE}) {
      x.due("change 0 " + what + " 0", BEYOND).due("change 0 " + what + " 1", BEYOND);
    }
    x.all(BEYOND, "change 1 0 0", "change -1 0 0", "change MIN 0 0", "change MAX 0 0", "change 8 1 0");
    x.due("of 0 6", 60).due("of 0 7", 53).due("status 0", 21);
  }

  static void p07TheFirstAndTheLastPriest() {
    promise(7, "BEYOND.");
    new Run().due("change 0 0 0", BEYOND);
    Run x = Run.told("priest;priest;priest;priest;priest;priest;priest;priest");
    x.due("change 0 1 8", 0).due("change 7 1 9", 0).due("change 8 1 9", BEYOND).due("change -1 1 9", BEYOND);
    x.due("of 0 1", 8).due("of 7 1", 9).due("now 4", 17);
  }

  // ---- promise 8

  static void p08ConfessionsOnly() {
    promise(8, "What a PRIEST SWELLS by a CONFESSION (100 * SIN and WORDS).", "BEYOND.");
    Run x = Run.told("priest");
    for (int sin = 0; sin < 8; sin++) {
      x.due("swells 0 " + 100 * sin, 0).due("swells 0 " + (100 * sin + 40), 40);
      x.all(BEYOND, "swells 0 " + (100 * sin + 41), "swells 0 " + (100 * sin + 99));
    }
    x.all(BEYOND, "swells 0 -1", "swells 0 -60", "swells 0 -100", "swells 0 741", "swells 0 800", "swells 0 MIN");
    x.all(BEYOND, "swells 0 2147483640", "swells 0 -2147483640", "swells 0 MAX");
  }

  static void p08PriestsOnly() {
    promise(8, "BEYOND.");
    new Run().due("swells 0 0", BEYOND).due("swells -1 0", BEYOND);
    Run x = Run.told("priest;priest;priest;priest;priest;priest;priest;hungry");
    x.due("swells 0 40", 40).due("swells 7 40", 20);
    x.all(BEYOND, "swells 8 40", "swells -1 40", "swells MIN 40", "swells MAX 40");
  }

  static void p08NothingIsEaten() {
    promise(8, "What a PRIEST SWELLS by a CONFESSION (100 * SIN and WORDS).");
    Run x = Run.told("bishop stuffed 990");
    x.due("swells 0 740", 40).due("swells 0 740", 40).due("of 0 1", 990).due("of 0 3", 0).due("of 0 4", 0);
  }

  // ---- promise 9

  static void p09SinsAre0To7() {
    promise(9, "To whom a CONFESSION of a SIN would go now.", "BEYOND.");
    Run x = Run.told("priest takes 1; priest takes 128");
    x.due("goes 0", 0).due("goes 7", 1).all(BEYOND, "goes -1", "goes 8", "goes MIN", "goes MAX");
    for (int sin = 1; sin < 7; sin++) {
      x.due("goes " + sin, NONE);
    }
  }

  static void p09NobodyTakesIt() {
    promise(9, "NONE.");
    Run x = new Run();
    for (int sin = 0; sin < 8; sin++) {
      x.due("goes " + sin, NONE);
    }
    x.all(BEYOND, "goes 8", "goes -1");
    x.then("priest 0 0").due("goes 0", NONE).then("change 0 2 1").due("goes 0", 0).due("goes 1", NONE);
    x.then("priest 0 1", "dies 0").due("goes 0", 1).then("dies 1").due("goes 0", NONE).due("status 3", 11);
  }

  static void p09AlsoWithoutAnyRoom() {
    promise(9, "To whom a CONFESSION of a SIN would go now.");
    Run x = Run.told("envious takes 4 stuffed 999; priest takes 4 stuffed 999; priest takes 4 stuffed 999; priest takes 0");
    x.due("goes 2", 1).then("change 1 2 0").due("goes 2", 2).then("change 2 2 0").due("goes 2", 0);
    x.due("of 0 7", -969).due("of 0 4", 0);
  }

  // ---- promise 10

  static void p10WhatHeKnowsComesToTheHungriestOther() {
    promise(10, "A PRIEST dies: what he KNOWS comes to the hungriest of the others (with most ROOM, of several the least "
        + "number), too;");
    Run x = Run.told("saint knows 1; priest knows 2 stuffed 1; priest knows 2; priest knows 4");
    // The dead one has most room himself, and the others needn't take any sin.
    x.then("change 2 2 0").due("dies 0", 2).due("of 2 3", 3).due("of 1 3", 2).due("of 3 3", 4);
    x = Run.told("priest knows 255 stuffed 999; priest stuffed 999; priest stuffed 998; priest stuffed 998");
    x.due("dies 0", 2).due("of 2 3", 255).due("of 2 1", 998).due("of 1 3", 0).due("of 3 3", 0);
    x = Run.told("priest knows 9; envious stuffed 999; envious stuffed 999");
    x.due("dies 0", 1).due("of 1 3", 9);
    // Nothing known: nothing comes.
    x = Run.told("priest; priest knows 6").due("dies 0", 1).due("of 1 3", 6).due("of 1 4", 0);
  }

  static void p10TheDeadIsNoOtherOne() {
    promise(10, "comes to the hungriest of the others");
    // Each of eight in turn has most room himself, and the next most have all others.
    for (int dead = 0; dead < 8; dead++) {
      Run x = Run.told("priest;priest;priest;priest;priest;priest;priest;priest");
      for (int p = 0; p < 8; p++) {
        x.then("change " + p + " 1 " + (p == dead ? 0 : 20));
      }
      int heir = dead == 0 ? 1 : 0;
      x.then("change " + dead + " 3 17").due("dies " + dead, heir).due("of " + heir + " 3", 17);
      x.due("of " + dead + " 3", 0).due("dies " + dead, heir);
    }
  }

  static void p10TheDeadIsEmpty() {
    promise(10, "he KNOWS nothing any more, is STUFFED by 0, TAKES no SIN: who that is.");
    Run x = Run.told("sweet; bishop takes 255 knows 255 stuffed 999; out 64");
    x.then("change 1 4 12", "change 1 5 13", "hold 3 1");
    x.due("dies 1", 0).due("of 1 3", 0).due("of 1 1", 0).due("of 1 2", 0);
    x.due("of 1 0", BISHOP).due("of 1 4", 12).due("of 1 5", 13).due("as 3 5", 1).due("count 1", 2).due("now 1", 64);
    x.due("of 0 3", 255).due("of 0 1", 0).due("of 0 2", 255).due("of 0 4", 0);
    // He may die again, and what another one knows may come to him.
    x.due("dies 1", 0).due("dies 0", 1).due("of 1 3", 255).due("goes 0", NONE);
  }

  static void p10NoSuchPriest() {
    promise(10, "BEYOND.");
    new Run().all(BEYOND, "dies 0", "dies -1", "dies MIN", "dies MAX");
    Run x = Run.told("priest").all(BEYOND, "dies 1", "dies -1").due("dies 0", NONE);
    x = Run.told("priest;priest;priest;priest;priest;priest;priest;priest knows 5 stuffed 3");
    x.all(BEYOND, "dies 8", "dies -1").due("dies 7", 0).due("of 0 3", 5).due("dies 0", 1).due("of 1 3", 5);
  }

  static void p10ThereIsNoOther() {
    promise(10, "NONE: there is no other one.");
    Run x = Run.told("priest takes 3 knows 5 stuffed 7");
    x.due("dies 0", NONE).due("of 0 3", 5).due("of 0 1", 7).due("of 0 2", 3).due("status 3", 1);
    x.then("priest 0 0").due("dies 0", 1).due("of 0 3", 0).due("of 1 3", 5);
  }
}
