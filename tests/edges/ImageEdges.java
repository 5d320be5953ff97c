/** Promises 40 to 44: images, counts and the status. */
final class ImageEdges extends Edge {

  /** Something of all that an object holds. */
  private static Run full() {
    return Run.told("priest takes 3 knows 1 stuffed 9; saint knows 6 stuffed 70", "told 2 3 4; water 5; out 16")
        .then("hold 4 1", "seed 99", "change 0 4 3", "change 0 5 2", "go 3");
  }

  // ---- promise 40

  static void p40AllIsKept() {
    promise(40, "All but THE TAPE and SHEETS is kept: 1.");
    Run want = full();
    Run x = full().due("image", 1);
    x.then("set 0 1", "set 1 1", "list 2 0", "list 3 740", "seed 5", "hold 4 -1", "hold 5 0", "priest 4 1", "hold 6 2");
    for (int what = 0; what < 6; what++) {
      x.then("change 0 " + what + " 4", "change 1 " + what + " 5");
    }
    x.then("go 60", "come 20").due("undo", 3).then("tear");
    want.then("tear");
    due("all that was kept", x.looks(), want.looks());
  }

  static void p40TheTapeAndSheetsAreNotKept() {
    promise(40, "All but THE TAPE and SHEETS is kept: 1.");
    Run x = Run.told("priest").feeds("out ").sheet(0, 8, 1).sheet(1, 8, 2);
    x.then("image").feeds("7").then("write 0 0 3", "sheet 1 0 0", "sheet 2 8 2", "undo");
    x.due("count 5", 5).due("load 0", 1).due("listed 0", 3).due("load 1", MISSING).due("load 2", 2);
    x.due("text", 1).due("now 1", 7).due("undo", 0).due("count 5", 0).due("now 1", 0);
  }

  static void p40OfAnEmptyAndOfAFullMission() {
    promise(40, "All but THE TAPE and SHEETS is kept: 1.");
    Run x = Run.of("image").due("image", 1);
    for (int p = 0; p < 8; p++) {
      x.then("priest " + p % 7 + " 255", "change " + p + " 3 " + p, "hold " + p + " " + p);
    }
    x.due("priest 0 0", FULL).due("undo", 0).due("count 1", 0).due("count 7", 0).due("of 0 0", BEYOND);
    for (int p = 0; p < 8; p++) {
      x.due("priest " + p % 7 + " 255", p).then("change " + p + " 3 " + (p + 1), "hold " + (9 - p) + " " + p);
    }
    x.then("image", "dies 0", "dies 7", "hold 9 -1").due("undo", 0).due("count 1", 8).due("count 7", 8);
    for (int p = 0; p < 8; p++) {
      x.due("of " + p + " 3", p + 1).due("as " + (9 - p) + " 0", p);
    }
    x.due("priest 0 0", FULL);
  }

  // ---- promise 41

  static void p41WhatWasKeptLatestStays() {
    promise(41, "It becomes what was kept latest (which stays): DAY.");
    Run x = Run.of("image").due("undo", 0).then("go 2", "image", "go 5").due("undo", 2).then("go 60").due("undo", 2);
    x.then("go 1", "image", "image").due("undo", 3).due("undo", 3).due("now 0", 3);
    // What is done behind an undo doesn't change what is kept.
    x = Run.told("priest stuffed 5").then("image", "undo", "change 0 1 7", "list 0 9").due("undo", 0);
    x.due("of 0 1", 5).due("listed 0", 0);
  }

  static void p41NothingIsKept() {
    promise(41, "NONE: nothing is kept.");
    Run x = Run.of("go 4").due("undo", NONE).due("undo", NONE).due("now 0", 4).due("status 3", 2);
    x.then("image", "go 1", "tear").due("undo", NONE).due("now 0", 5).then("image").due("undo", 5).due("status 3", 3);
  }

  // ---- promise 42

  static void p42OneIfSomethingWasKept() {
    promise(42, "Nothing is kept: 1 if something was, else 0.");
    Run x = new Run();
    x.due("tear", 0).due("tear", 0).then("image").due("tear", 1).due("tear", 0).due("undo", NONE);
    x.then("image", "image", "undo").due("tear", 1).due("tear", 0).due("status -1", 1);
  }

  // ---- promise 43

  static void p43WhatIs0To7() {
    promise(43, "0 DAY, 1 PRIESTS, 2 how many SINS are OUT, 3 KEPT, 4 ILL of all together, 5 bytes of THE TAPE, 6 z, "
        + "7 SPOTS that hold something.", "BEYOND: another what.");
    Run x = new Run();
    int[] first = {0, 0, 0, 0, 0, 0, 1, 0};
    for (int what = 0; what < 8; what++) {
      x.due("count " + what, first[what]);
    }
    x.all(BEYOND, "count -1", "count 8", "count MIN", "count MAX").due("status 0", 4);
    x.then("list 0 1", "go 1", "set 1 255", "seed MIN").feeds(" ".repeat(120));
    for (int p = 0; p < 8; p++) {
      x.then("priest 0 0", "change " + p + " 5 9999", "hold " + p + " " + p);
    }
    x.then("hold 8 0", "hold 9 0");
    int[] most = {1, 8, 8, 1, 79992, 120, Integer.MIN_VALUE, 10};
    for (int what = 0; what < 8; what++) {
      x.due("count " + what, most[what]);
    }
  }

  // ---- promise 44

  static void p44WhichIsMinus1To6() {
    promise(44, "How many acts answered a finding ever (undo() takes none back): which -1: all, 0 to 6: BEYOND to SIZE.");
    Run x = Run.told("priest;priest;priest;priest;priest;priest;priest;priest").then("hold 0 0", "image");
    x.all(BEYOND, "set 2 0").all(FULL, "priest 0 0", "priest 0 0").all(KIND, "as 0 1", "as 0 1", "as 0 1");
    x.all(NONE, "out 0", "out 0", "out 0", "out 0").all(MISSING, "as 1 0", "load 0", "judge 0", "fits 0 0", "write 0 0 0",
        "kinds 0 0").all(SIZE, "sheet 0 8 -1", "sheet 0 8 -1", "sheet 0 8 -1", "sheet 0 8 -1", "sheet 0 8 -1",
        "sheet 0 8 -1", "sheet 0 8 -1");
    int[] told = {1 + 2 + 3 + 4 + 0 + 6 + 7, 1, 2, 3, 4, 0, 6, 7};
    for (int which = -1; which < 7; which++) {
      x.due("status " + which, told[which + 1]);
    }
    x.then("undo", "tear");
    for (int which = -1; which < 7; which++) {
      x.due("status " + which, told[which + 1]);
    }
    TermsEdges.onTheLastDay().all(STATE, "go 1", "come 1").due("status 4", 2).due("status -1", 2).due("status 0", 0);
  }

  static void p44AnotherIsBeyondAndCounted() {
    promise(44, "BEYOND (counted from then on): another one.");
    Run x = new Run();
    x.due("status -2", BEYOND).due("status 0", 1).due("status 7", BEYOND).due("status 0", 2).due("status -1", 2);
    x.all(BEYOND, "status MIN", "status MAX").due("status 0", 4).due("status -1", 4).due("status 6", 0);
  }

  static void p44WhatIsNoFindingIsNotCounted() {
    promise(44, "How many acts answered a finding ever");
    Run x = Run.of("seed " + BEYOND).due("seed " + FULL, BEYOND).due("count 6", FULL).due("status -1", 0);
    x.due("text", -1).reads("#", -1).due("now 5", -1).due("tear", 0).due("status -1", 0);
    x.then("priest 2 0", "change 0 1 999").due("of 0 7", -969).due("status -1", 0);
  }

  /** The document's promises end with the 512th call, so that one still answers as is due. */
  static void the512thCall() {
    quote("What it is", "An object is used for at most 512 calls after it has been made; what later calls answer is free.");
    Run x = new Run();
    for (int i = 0; i < 500; i++) {
      x.due("go 60", 0);
    }
    x.due("now 0", 30000).then("list 0 1", "priest 3 255", "priest 3 255", "priest 3 255");
    x.due("ahead 0 4 100", 17).due("ahead 1 4 100", 0).due("ill 2", NONE).due("when 2 999", NONE).due("fast 20", 0);
    x.due("status -1", 2).due("now 0", 30000);
  }
}
