/** Promises 33 to 39: spots and sheets. */
final class SheetEdges extends Edge {

  // ---- promise 33

  static void p33SpotsAre0To9() {
    promise(33, "A SPOT holds a PRIEST, or nothing (-1): 1.", "BEYOND.");
    Run x = Run.told("priest; saint");
    x.due("hold 0 0", 1).due("hold 9 1", 1).due("as 0 0", 0).due("as 9 0", 1).due("count 7", 2);
    x.all(BEYOND, "hold -1 0", "hold 10 0", "hold MIN 0", "hold MAX 0", "hold -1 -1", "hold 10 -1");
    x.due("hold 9 -1", 1).due("hold 8 -1", 1).due("as 9 0", MISSING).due("count 7", 1);
    x.due("hold 0 1", 1).due("as 0 0", 1).due("count 7", 1);
  }

  static void p33APriestOrNothing() {
    promise(33, "A SPOT holds a PRIEST, or nothing (-1): 1.", "BEYOND.");
    Run x = new Run();
    x.due("hold 0 -1", 1).all(BEYOND, "hold 0 0", "hold 0 -2", "hold 0 MIN", "hold 0 MAX").due("count 7", 0);
    for (int p = 0; p < 8; p++) {
      x.due("hold 3 " + p, BEYOND).then("priest 0 0").due("hold 3 " + p, 1).due("as 3 0", p);
    }
    x.all(BEYOND, "hold 3 8", "hold 3 -2").due("as 3 0", 7).due("count 7", 1);
    // Two spots may hold one priest.
    x.due("hold 4 7", 1).due("count 7", 2).due("as 4 0", 7);
  }

  // ---- promise 34

  static void p34SpotsAndKinds() {
    promise(34, "What a SPOT holds as one of a kind (0 to 6): the number of the PRIEST.", "BEYOND.");
    Run x = Run.told("hungry; saint").then("hold 0 0", "hold 9 1");
    x.due("as 0 0", 0).due("as 0 6", 0).due("as 9 0", 1).due("as 9 4", 1);
    x.all(BEYOND, "as -1 0", "as 10 0", "as MIN 0", "as MAX 0", "as 0 -1", "as 0 7", "as 0 MIN", "as 0 MAX");
    x.all(BEYOND, "as 1 -1", "as 1 7", "as 10 7");
  }

  static void p34ItHoldsNothing() {
    promise(34, "MISSING: it holds nothing.");
    Run x = Run.told("priest");
    for (int kind = 0; kind < 7; kind++) {
      x.all(MISSING, "as 0 " + kind, "as 9 " + kind);
    }
    x.then("hold 0 0").due("as 0 0", 0).then("hold 0 -1").due("as 0 0", MISSING).due("as 0 1", MISSING);
  }

  static void p34NotOfThatKindNorUnderIt() {
    promise(34, "KIND: it isn't of that kind, nor of one under it.");
    Run x = Run.told("priest").then("hold 0 0");
    String[] upward = {"0", "10", "20", "310", "4310", "50", "620"};
    for (int is = 0; is < 7; is++) {
      x.then("change 0 0 " + is);
      for (int kind = 0; kind < 7; kind++) {
        x.due("as 0 " + kind, upward[is].contains("" + kind) ? 0 : KIND);
      }
    }
    // The dead are held as before.
    x.then("priest 0 0", "dies 0").due("as 0 6", 0).due("as 0 1", KIND);
  }

  // ---- promise 35

  static void p35ASheetIsOf0To40Numbers() {
    promise(35, "A sheet has n numbers, all 0, of 8, 16 or 32 bits; bits 0: it is MISSING: n (0 if it is MISSING).",
        "BEYOND: n is above 40 (also with bits 0).");
    for (int bits : new int[] {8, 16, 32}) {
      Run x = Run.told("priest");
      x.due("sheet 2 " + bits + " 0", 0).due("judge 2", 0).due("write 2 0 0", BEYOND);
      x.due("sheet 2 " + bits + " 1", 1).due("write 2 0 5", 1).due("write 2 1 5", BEYOND).due("judge 2", 1);
      x.due("sheet 2 " + bits + " 40", 40).due("judge 2", 2).due("write 2 39 5", 1).due("write 2 40 5", BEYOND);
      x.all(BEYOND, "sheet 2 " + bits + " 41", "sheet 2 " + bits + " MAX").due("write 2 39 6", 1);
    }
    Run x = new Run();
    x.all(BEYOND, "sheet 0 0 41", "sheet 0 0 MAX").due("sheet 0 0 40", 0).due("sheet 0 0 0", 0).due("load 0", MISSING);
  }

  static void p35AllAre0() {
    promise(35, "A sheet has n numbers, all 0,");
    Run x = new Run();
    for (int i = 0; i < 6; i++) {
      x.then("list " + i + " 1");
    }
    x.sheet(1, 8, 1, 2, 3, 4, 5, 6).due("sheet 1 8 6", 6).due("load 1", 6);
    for (int i = 0; i < 6; i++) {
      x.due("listed " + i, 0);
    }
    // Also behind what was shorter in between.
    x.sheet(1, 8, 1, 2, 3, 4, 5, 6).then("sheet 1 8 2", "sheet 1 8 6", "list 5 9").due("load 1", 6).due("listed 5", 0);
    x.sheet(1, 8, 1, 2, 3, 4, 5, 6).then("sheet 1 0 0", "sheet 1 8 6", "list 5 9").due("load 1", 6).due("listed 5", 0);
    // The last of 40, too.
    x.then("sheet 1 8 40", "write 1 39 9", "sheet 1 8 40", "copy 1 39 1 0 1", "list 0 9").due("load 1", 6);
    x.due("listed 0", 0);
  }

  static void p35SheetsAndBits() {
    promise(35, "BEYOND: no such sheet, other bits.");
    Run x = new Run();
    x.all(BEYOND, "sheet -1 8 1", "sheet 4 8 1", "sheet MIN 8 1", "sheet MAX 8 1", "sheet 4 0 0");
    x.due("sheet 0 8 1", 1).due("sheet 3 8 1", 1);
    for (int bits : new int[] {-32, -16, -8, -1, 1, 4, 7, 9, 15, 17, 24, 31, 33, 64, Integer.MIN_VALUE, Integer.MAX_VALUE}) {
      x.due("sheet 0 " + bits + " 1", BEYOND).due("sheet 0 " + bits + " 0", BEYOND).due("sheet 0 " + bits + " -1", BEYOND);
    }
    x.due("sheet 4 8 -1", BEYOND).due("sheet -1 0 -1", BEYOND).due("load 0", 1).due("status 6", 0);
  }

  static void p35NotBelow0() {
    promise(35, "SIZE: n is below 0 (also with bits 0).");
    Run x = Run.of("sheet 0 8 1");
    x.all(SIZE, "sheet 0 8 -1", "sheet 0 16 -1", "sheet 0 32 -1", "sheet 0 0 -1", "sheet 0 8 MIN", "sheet 0 0 MIN");
    x.due("load 0", 1).due("status 6", 6).due("sheet 0 0 0", 0);
  }

  // ---- promise 36

  static void p36LowestBits() {
    promise(36, "Number i of a sheet becomes v (its lowest bits): 1.");
    Run x = new Run();
    for (int v : new int[] {0, -1, 255, 256, 65535, 65536, Integer.MIN_VALUE, Integer.MAX_VALUE}) {
      for (int bits : new int[] {8, 16, 32}) {
        x.then("sheet 0 " + bits + " 1").due("write 0 0 " + v, 1);
      }
    }
    // 256 + 101 and 65536 + 340, cut to 8 and to 16 bits; to 32 bits they are no confessions.
    x.sheet(0, 8, 357, -256 + 40).due("load 0", 2).due("listed 0", 101).due("listed 1", 40);
    x.sheet(0, 16, 65536 + 340, -65536 + 740).due("load 0", 2).due("listed 0", 340).due("listed 1", 740);
    x.sheet(0, 32, 65536 + 340).due("load 0", 0).sheet(0, 32, 740).due("load 0", 1).due("listed 0", 740);
    x.sheet(0, 8, 740).due("load 0", 0).sheet(0, 8, 128).due("load 0", 0).sheet(0, 8, 127).due("load 0", 1);
  }

  static void p36NoSuchSheet() {
    promise(36, "BEYOND: no such sheet.", "MISSING.");
    Run x = new Run();
    x.all(BEYOND, "write -1 0 0", "write 4 0 0", "write MIN 0 0", "write MAX 0 0", "write 4 -1 0");
    for (int s = 0; s < 4; s++) {
      x.all(MISSING, "write " + s + " 0 0", "write " + s + " -1 0", "write " + s + " 40 0");
      x.then("sheet " + s + " 8 1").due("write " + s + " 0 0", 1);
      x.then("sheet " + s + " 0 1").due("write " + s + " 0 0", MISSING);
    }
  }

  static void p36NoSuchNumber() {
    promise(36, "BEYOND: no such number.");
    Run x = Run.of("sheet 0 8 0", "sheet 1 8 3", "sheet 2 32 40");
    x.all(BEYOND, "write 0 0 1", "write 0 -1 1", "write 0 1 1");
    x.due("write 1 0 1", 1).due("write 1 2 3", 1).all(BEYOND, "write 1 3 9", "write 1 -1 9", "write 1 MIN 9", "write 1 MAX 9");
    x.due("write 2 0 1", 1).due("write 2 39 1", 1).all(BEYOND, "write 2 40 9", "write 2 -1 9");
    x.due("load 1", 3).due("listed 0", 1).due("listed 1", 0).due("listed 2", 3);
  }

  // ---- promise 37

  static void p37SheetBeforeMissingBeforeKindBeforeNumbers() {
    promise(37, "BEYOND: no such sheet (either). MISSING: one is. KIND: they are not of as many bits.");
    Run x = Run.of("sheet 0 8 2", "sheet 1 16 2", "sheet 2 32 2");
    x.all(BEYOND, "copy -1 0 0 0 1", "copy 4 0 0 0 1", "copy 0 0 -1 0 1", "copy 0 0 4 0 1", "copy MIN 0 MAX 0 1");
    x.all(BEYOND, "copy 4 0 3 0 1", "copy 3 0 4 0 1", "copy -1 0 3 0 -1", "copy 4 0 1 0 -1");
    x.all(MISSING, "copy 0 0 3 0 1", "copy 3 0 0 0 1", "copy 3 0 3 0 1", "copy 3 0 0 0 -1", "copy 0 9 3 0 0");
    x.all(KIND, "copy 0 0 1 0 1", "copy 1 0 0 0 1", "copy 1 0 2 0 0", "copy 2 0 0 0 -1", "copy 0 3 2 0 1", "copy 0 0 2 3 1");
    x.all(1, "copy 0 0 0 0 1", "copy 1 0 1 0 1", "copy 2 0 2 0 1");
  }

  static void p37NotSoManyNumbers() {
    promise(37, "BEYOND: one has not so many, or from, to or n is below 0.");
    Run x = Run.of("sheet 0 8 6", "sheet 1 8 3", "sheet 2 8 0", "sheet 3 8 40");
    x.due("copy 0 0 1 0 3", 3).all(BEYOND, "copy 0 0 1 0 4", "copy 0 0 1 1 3", "copy 1 0 0 0 4", "copy 1 1 0 0 3");
    x.due("copy 0 3 1 0 3", 3).all(BEYOND, "copy 0 4 1 0 3", "copy 0 6 1 0 1").due("copy 0 5 1 2 1", 1);
    x.due("copy 0 6 1 3 0", 0).all(BEYOND, "copy 0 7 1 3 0", "copy 0 6 1 4 0");
    x.due("copy 2 0 2 0 0", 0).all(BEYOND, "copy 2 0 2 0 1", "copy 0 0 2 0 1", "copy 2 1 0 0 0", "copy 0 0 2 1 0");
    x.due("copy 3 0 3 0 40", 40).all(BEYOND, "copy 3 0 3 0 41", "copy 3 1 3 0 40", "copy 3 0 3 1 40");
    x.all(BEYOND, "copy 0 -1 1 0 1", "copy 0 0 1 -1 1", "copy 0 0 1 0 -1", "copy 0 -1 1 0 0", "copy 0 0 1 -1 0");
    x.all(BEYOND, "copy 0 MIN 1 0 0", "copy 0 0 1 MIN 0", "copy 0 0 1 0 MIN", "copy 0 MIN 1 MIN MIN");
    // From and n together wrap around an int.
    x.all(BEYOND, "copy 0 1 1 0 MAX", "copy 0 MAX 1 0 1", "copy 0 0 1 MAX 1", "copy 0 MAX 1 MAX MAX", "copy 0 MAX 0 0 0");
    x.all(BEYOND, "copy 0 MAX 1 0 MAX", "copy 0 0 1 1 MAX", "copy 0 -1 1 0 MAX");
  }

  static void p37AsTheyAllWere() {
    promise(37, "n numbers of a sheet from one on come to another one from one on (as they all were): n.");
    Run x = new Run();
    x.sheet(0, 8, 1, 2, 3, 4, 5, 6).due("copy 0 0 0 1 5", 5);
    listIs(x, 1, 1, 2, 3, 4, 5);
    x.sheet(0, 16, 1, 2, 3, 4, 5, 6).due("copy 0 1 0 0 5", 5);
    listIs(x, 2, 3, 4, 5, 6, 6);
    x.sheet(0, 32, 1, 2, 3, 4, 5, 6).due("copy 0 0 0 0 6", 6);
    listIs(x, 1, 2, 3, 4, 5, 6);
    // None of the others change, and those that come from stay.
    x.sheet(0, 8, 1, 2, 3, 4, 5, 6).sheet(1, 8, 11, 12, 13, 14, 15, 16).due("copy 1 1 0 3 2", 2);
    listIs(x, 1, 2, 3, 12, 13, 6);
    x.due("copy 1 0 0 0 6", 6);
    listIs(x, 11, 12, 13, 14, 15, 16);
    x.due("copy 1 0 0 3 0", 0);
    listIs(x, 11, 12, 13, 14, 15, 16);
  }

  private static void listIs(Run x, int... numbers) {
    x.due("load 0", 6);
    for (int i = 0; i < 6; i++) {
      x.due("listed " + i, numbers[i]);
    }
  }

  // ---- promise 38

  static void p38SixPlaces() {
    promise(38, "Numbers of a sheet, from its begin on, become CONFESSIONS of THE LIST, places 0, 1, ..: how many came.");
    Run x = new Run();
    x.then("list 0 5").sheet(0, 16).due("load 0", 0).due("listed 0", 5);
    x.sheet(0, 16, 740).due("load 0", 1).due("listed 0", 740).due("listed 1", 0);
    x.sheet(0, 16, 1, 2, 3, 4, 5, 6).due("load 0", 6).due("listed 0", 1).due("listed 5", 6);
    x.sheet(0, 16, 11, 12, 13, 14, 15).due("load 0", 5).due("listed 4", 15).due("listed 5", 6);
    x.then("sheet 0 8 40").due("load 0", 6);
  }

  static void p38ItEndsAtTheFirstThatIsNone() {
    promise(38, "It ends at the first that is none, or for which there is no place.");
    for (int none : new int[] {41, 99, 141, 199, 741, 799, 800, 801, 840, -1, -60, -100, 32767, -32768}) {
      Run x = new Run().sheet(0, 16, 1, 2, none, 4, 5).due("load 0", 2).due("listed 1", 2).due("listed 2", 0);
      x.due("listed 3", 0).sheet(0, 16, none, 4).due("load 0", 0).due("listed 0", 1).due("listed 1", 2);
    }
    Run x = new Run().sheet(0, 16, 0, 40, 100, 140, 700, 740, 300).due("load 0", 6).due("listed 5", 740);
    x.due("listed 0", 0).due("listed 4", 700);
    // The 7th has no place, whatever it is.
    x.sheet(0, 16, 1, 2, 3, 4, 5, 6, 999).due("load 0", 6).sheet(0, 16, 1, 2, 3, 4, 5, 999, 7).due("load 0", 5);
    x.sheet(0, 32, Integer.MAX_VALUE).due("load 0", 0).sheet(0, 32, Integer.MIN_VALUE).due("load 0", 0);
  }

  static void p38SheetBeforeMissing() {
    promise(38, "BEYOND: no such sheet.", "MISSING.");
    onSheetsAlone("load", 1);
  }

  // ---- promise 39

  static void p39NumbersAreWhatPriestsKnow() {
    promise(39, "THE READER: numbers of a sheet are what PRIESTS 0, 1, .. KNOW: 0 if so; else 1 and the place of the first "
        + "that isn't so.");
    Run x = new Run();
    x.sheet(0, 16).due("judge 0", 0).sheet(0, 16, 0).due("judge 0", 1);
    for (int p = 0; p < 8; p++) {
      x.then("priest 0 0", "change " + p + " 3 " + (255 - p));
    }
    x.sheet(0, 16, 255, 254, 253, 252, 251, 250, 249, 248).due("judge 0", 0);
    for (int p = 7; p >= 0; p--) {
      x.then("write 0 " + p + " " + (254 - p)).due("judge 0", 1 + p);
    }
    x.sheet(0, 16, 255).due("judge 0", 0).sheet(0, 16, 255, 254, 253).due("judge 0", 0);
    // Behind the last priest no number is so.
    x.sheet(0, 16, 255, 254, 253, 252, 251, 250, 249, 248, 0).due("judge 0", 9);
    x.then("sheet 0 16 40").due("judge 0", 1);
    // Of 8 bits 255 is -1, which nobody knows; 127 is the most that such a sheet tells.
    x.sheet(0, 8, 255).due("judge 0", 1).then("change 0 3 127").sheet(0, 8, 127).due("judge 0", 0);
    x.then("change 0 3 128").sheet(0, 8, 128).due("judge 0", 1).sheet(0, 32, 128).due("judge 0", 0);
  }

  static void p39SheetBeforeMissing() {
    promise(39, "BEYOND: no such sheet.", "MISSING.");
    onSheetsAlone("judge", 1);
  }

  /** A sheet of one 0: one confession comes, and of no priest at all it isn't so. */
  private static void onSheetsAlone(String call, int ofOne) {
    Run x = new Run();
    x.all(BEYOND, call + " -1", call + " 4", call + " MIN", call + " MAX");
    for (int s = 0; s < 4; s++) {
      x.due(call + " " + s, MISSING).then("sheet " + s + " 8 1").due(call + " " + s, ofOne);
      x.then("sheet " + s + " 0 1").due(call + " " + s, MISSING);
    }
  }
}
