import java.util.List;

/** A refused call changes nothing but status(), and of several findings that one is told which is asked first. */
final class RefusedEdges extends Edge {

  private static final String CHANGES_NOTHING = "one that answers a finding changes nothing but status().";
  private static final String IN_ORDER = "Each act tells its findings in the order in which they are asked (that of its "
      + "words);";

  /** Something of all that an object holds, and of all of it something else in the image. */
  private static Run rich() {
    Run x = Run.told("bishop takes 3 knows 1 stuffed 9; saint takes 6 knows 6 stuffed 70; told 0 2 9; told 3 7 4; water 5")
        .then("hold 0 1", "image", "set 1 16", "set 0 7", "list 1 340", "seed 99", "hold 9 0", "go 2");
    x.sheet(0, 8, 1, 102, 3).sheet(1, 16, 301, 302, 303, 304, 305, 306, 307).sheet(2, 32, 740);
    return x.feeds("out 9; water 1");
  }

  /** Eight priests, a full tape, and ten spots in use. */
  private static Run crowded() {
    Run x = Run.told("priest;curate;envious;sweet;saint;bishop;hungry;priest");
    for (int spot = 0; spot < 10; spot++) {
      x.then("hold " + spot + " " + spot % 8);
    }
    return x.then("change 7 2 1", "change 7 3 9", "list 0 101", "image", "go 1").feeds("out 3" + " ".repeat(115));
  }

  private static Run empty() {
    return new Run();
  }

  /** Twins, of which one makes the call: it tells the finding, counts it, and is the other's like in all else. */
  private static void refused(Run x, long finding, String... calls) {
    for (String call : calls) {
      Run twin = x.twin();
      Run one = x.twin().due(call, finding);
      for (int which = -1; which < 7; which++) {
        boolean counted = which == -1 || which == BEYOND - finding;
        due("status " + which + " behind " + call, one.ask("status " + which),
            twin.ask("status " + which) + (counted ? 1 : 0));
      }
      List<String> seen = one.looks();
      List<String> due = twin.looks();
      for (int i = 0; i < due.size() && i < seen.size(); i++) {
        due("what is seen behind " + call, seen.get(i), due.get(i));
      }
      due("how much is seen behind " + call, seen.size(), due.size());
    }
  }

  // ---- BEYOND

  static void missionCallsBeyond() {
    terms(CHANGES_NOTHING);
    promise(2, "BEYOND.");
    refused(rich(), BEYOND, "set -1 1", "set 2 1", "set 0 -1", "set 0 10", "set 1 -1", "set 1 256");
    promise(3, "BEYOND.");
    refused(rich(), BEYOND, "list -1 1", "list 6 1", "list 0 -1", "list 0 41", "list 5 741", "list 0 800");
    promise(4, "BEYOND.");
    refused(rich(), BEYOND, "listed -1", "listed 6");
    promise(5, "BEYOND.");
    refused(rich(), BEYOND, "priest -1 1", "priest 7 1", "priest 0 -1", "priest 0 256");
    refused(empty(), BEYOND, "priest -1 1", "priest 7 1", "priest 0 -1", "priest 0 256");
    promise(6, "BEYOND.");
    refused(rich(), BEYOND, "of -1 1", "of 2 1", "of 0 -1", "of 0 10");
    promise(8, "BEYOND.");
    refused(rich(), BEYOND, "swells -1 1", "swells 2 1", "swells 0 -1", "swells 0 741");
    promise(9, "BEYOND.");
    refused(rich(), BEYOND, "goes -1", "goes 8");
    promise(10, "BEYOND.");
    refused(rich(), BEYOND, "dies -1", "dies 2");
  }

  static void changesBeyond() {
    terms(CHANGES_NOTHING);
    promise(7, "BEYOND.");
    refused(rich(), BEYOND, "change -1 1 1", "change 2 1 1", "change 0 -1 1", "change 0 6 1", "change 0 10 1");
    refused(rich(), BEYOND, "change 1 0 7", "change 1 1 1000", "change 1 2 256", "change 1 3 256", "change 1 4 10000");
    refused(rich(), BEYOND, "change 1 5 10000", "change 1 0 -1", "change 1 1 -1", "change 1 2 -1", "change 1 3 -1");
    refused(rich(), BEYOND, "change 1 4 -1", "change 1 5 -1");
  }

  static void daysBeyond() {
    terms(CHANGES_NOTHING);
    promise(11, "BEYOND.");
    refused(rich(), BEYOND, "go 0", "go 61", "go -1");
    promise(12, "BEYOND.");
    refused(rich(), BEYOND, "now -1", "now 8");
    promise(13, "BEYOND.");
    refused(rich(), BEYOND, "ahead -1 1 9", "ahead 2 1 9", "ahead 0 0 9", "ahead 0 7 9", "ahead 0 1 -1", "ahead 0 1 101");
    promise(14, "BEYOND.");
    refused(rich(), BEYOND, "ill -1", "ill 2");
    promise(15, "BEYOND.");
    refused(rich(), BEYOND, "out -1", "out 8");
    promise(16, "BEYOND.");
    refused(rich(), BEYOND, "wise -1 1", "wise 2 1", "wise 0 -1", "wise 0 9");
    promise(17, "BEYOND.");
    refused(rich(), BEYOND, "when -1 1", "when 2 1", "when 0 -1", "when 0 1000");
  }

  static void confessingBeyond() {
    terms(CHANGES_NOTHING);
    promise(18, "BEYOND.");
    refused(rich(), BEYOND, "wordsFor -1 9", "wordsFor 6 9", "wordsFor 0 -1", "wordsFor 0 61");
    promise(19, "BEYOND.");
    refused(rich(), BEYOND, "waterFor -1", "waterFor 61");
    promise(20, "BEYOND.");
    refused(rich(), BEYOND, "spare -1 9", "spare 2 9", "spare 0 -1", "spare 0 61");
    promise(21, "BEYOND.");
    refused(rich(), BEYOND, "kindFor -1 9", "kindFor 2 9", "kindFor 0 -1", "kindFor 0 61");
    promise(22, "BEYOND.");
    refused(rich(), BEYOND, "fast -1", "fast 21");
    promise(23, "BEYOND.");
    refused(rich(), BEYOND, "cover -1", "cover 256");
    promise(24, "BEYOND: no such sheet.", "BEYOND: no such PRIEST.");
    refused(rich(), BEYOND, "fits -1 0", "fits 4 0", "fits 0 -1", "fits 0 2");
    promise(25, "BEYOND, MISSING, BEYOND likewise.");
    refused(rich(), BEYOND, "words -1 0", "words 4 0", "words 0 -1", "words 0 2");
    promise(26, "BEYOND: no such sheet.", "BEYOND: no such PRIEST.");
    refused(rich(), BEYOND, "kinds -1 0", "kinds 4 0", "kinds 0 -1", "kinds 0 2");
  }

  static void penitentsAndTapeBeyond() {
    terms(CHANGES_NOTHING);
    promise(27, "BEYOND.");
    refused(rich(), BEYOND, "come 0", "come 21", "come -1");
    promise(28, "BEYOND.");
    refused(rich(), BEYOND, "odds -1 1 0", "odds 2 1 0", "odds 0 -1 0", "odds 0 21 0", "odds 0 1 -1", "odds 0 1 2");
    promise(30, "BEYOND: n.");
    refused(rich(), BEYOND, "feed 12345 0", "feed 12345 5", "feed 12345 -1");
  }

  static void spotsAndSheetsBeyond() {
    terms(CHANGES_NOTHING);
    promise(33, "BEYOND.");
    refused(rich(), BEYOND, "hold -1 0", "hold 10 0", "hold 0 -2", "hold 0 2");
    promise(34, "BEYOND.");
    refused(rich(), BEYOND, "as -1 0", "as 10 0", "as 0 -1", "as 0 7");
    promise(35, "BEYOND: no such sheet, other bits.", "BEYOND: n is above 40 (also with bits 0).");
    refused(rich(), BEYOND, "sheet -1 8 1", "sheet 4 8 1", "sheet 0 4 1", "sheet 0 64 1", "sheet 0 8 41", "sheet 1 0 41");
    promise(36, "BEYOND: no such sheet.", "BEYOND: no such number.");
    refused(rich(), BEYOND, "write -1 0 9", "write 4 0 9", "write 0 -1 9", "write 0 3 9", "write 1 7 9", "write 2 1 9");
    promise(37, "BEYOND: no such sheet (either).", "BEYOND: one has not so many, or from, to or n is below 0.");
    refused(rich(), BEYOND, "copy -1 0 1 0 1", "copy 4 0 1 0 1", "copy 1 0 -1 0 1", "copy 1 0 4 0 1");
    refused(rich(), BEYOND, "copy 1 2 1 0 6", "copy 1 0 1 2 6", "copy 0 0 0 0 4", "copy 1 -1 1 0 2", "copy 1 0 1 -1 2");
    refused(rich(), BEYOND, "copy 1 1 1 0 -1", "copy 1 1 1 0 MAX", "copy 1 MAX 1 0 1");
    promise(38, "BEYOND: no such sheet.");
    refused(rich(), BEYOND, "load -1", "load 4");
    promise(39, "BEYOND: no such sheet.");
    refused(rich(), BEYOND, "judge -1", "judge 4");
    promise(43, "BEYOND: another what.");
    refused(rich(), BEYOND, "count -1", "count 8");
    promise(44, "BEYOND (counted from then on): another one.");
    refused(rich(), BEYOND, "status -2", "status 7");
  }

  // ---- the other findings

  static void full() {
    terms(CHANGES_NOTHING);
    promise(5, "FULL.");
    refused(crowded(), FULL, "priest 0 1", "priest 6 255");
    promise(30, "FULL.");
    refused(crowded(), FULL, "feed 12345 1", "feed 12345 4");
    Run x = new Run().feeds("out 3" + " ".repeat(112));
    refused(x, FULL, "feed 12345 4");
  }

  static void kind() {
    terms(CHANGES_NOTHING);
    promise(34, "KIND: it isn't of that kind, nor of one under it.");
    refused(rich(), KIND, "as 0 5", "as 0 2", "as 9 1");
    promise(37, "KIND: they are not of as many bits.");
    refused(rich(), KIND, "copy 0 0 1 0 1", "copy 1 0 2 0 1", "copy 2 0 0 0 1");
  }

  static void none() {
    terms(CHANGES_NOTHING);
    promise(9, "NONE.");
    refused(rich(), NONE, "goes 7");
    promise(10, "NONE: there is no other one.");
    refused(Run.told("saint takes 9 knows 7 stuffed 8").then("change 0 4 6", "hold 0 0", "image"), NONE, "dies 0");
    promise(14, "NONE.");
    refused(crowded(), NONE, "ill 3");
    promise(15, "NONE.");
    refused(rich(), NONE, "out 5");
    promise(16, "NONE.");
    refused(rich(), NONE, "wise 0 8");
    promise(17, "NONE.");
    refused(rich(), NONE, "when 0 999");
    promise(18, "NONE.");
    Run ill = rich().then("change 0 1 999");
    refused(ill, NONE, "wordsFor 0 9", "wordsFor 1 60");
    promise(19, "NONE.");
    refused(rich().then("change 0 1 999", "change 0 3 15"), NONE, "waterFor 1", "waterFor 60");
    promise(22, "NONE.");
    refused(rich().then("change 0 1 999", "change 0 3 15"), NONE, "fast 1", "fast 20");
    promise(23, "NONE.");
    refused(rich(), NONE, "cover 128", "cover 255");
    promise(25, "NONE.");
    refused(rich(), NONE, "words 0 0", "words 1 1");
    promise(41, "NONE: nothing is kept.");
    refused(rich().then("tear"), NONE, "undo");
    refused(empty(), NONE, "undo");
  }

  static void state() {
    terms(CHANGES_NOTHING);
    promise(11, "STATE: DAY would be above 99999.");
    promise(27, "STATE: DAY would be above 99999.");
    Run x = TermsEdges.onTheLastDay();
    x.then("priest 0 255", "list 3 9", "image").feeds("out 3").sheet(0, 8, 5);
    refused(x, STATE, "go 1", "go 60", "come 1", "come 20");
  }

  static void missing() {
    terms(CHANGES_NOTHING);
    promise(24, "MISSING.");
    refused(rich(), MISSING, "fits 3 0");
    promise(25, "BEYOND, MISSING, BEYOND likewise.");
    refused(rich(), MISSING, "words 3 0");
    promise(26, "MISSING.");
    refused(rich(), MISSING, "kinds 3 0");
    promise(34, "MISSING: it holds nothing.");
    refused(rich(), MISSING, "as 1 0", "as 8 6");
    promise(36, "MISSING.");
    refused(rich(), MISSING, "write 3 0 9");
    promise(37, "MISSING: one is.");
    refused(rich(), MISSING, "copy 3 0 0 0 1", "copy 0 0 3 0 1", "copy 3 0 3 0 0");
    promise(38, "MISSING.");
    refused(rich(), MISSING, "load 3");
    promise(39, "MISSING.");
    refused(rich(), MISSING, "judge 3");
  }

  static void size() {
    terms(CHANGES_NOTHING);
    promise(35, "SIZE: n is below 0 (also with bits 0).");
    refused(rich(), SIZE, "sheet 0 8 -1", "sheet 0 32 -1", "sheet 1 0 -1", "sheet 3 16 MIN");
  }

  // ---- which of several is told first

  static void beyondBeforeAllElse() {
    terms(IN_ORDER);
    promise(5, "BEYOND. FULL.");
    refused(crowded(), BEYOND, "priest 7 0", "priest -1 0", "priest 0 256", "priest 0 -1");
    promise(9, "BEYOND. NONE.");
    refused(empty(), BEYOND, "goes -1", "goes 8");
    promise(10, "BEYOND. NONE: there is no other one.");
    refused(empty(), BEYOND, "dies 0");
    refused(Run.of("priest 0 0"), BEYOND, "dies 1", "dies -1");
    promise(14, "BEYOND. NONE.");
    refused(empty(), BEYOND, "ill 0");
    promise(15, "BEYOND. NONE.");
    refused(empty(), BEYOND, "out 8", "out -1");
    promise(16, "BEYOND. NONE.");
    refused(Run.of("priest 0 0"), BEYOND, "wise 0 9", "wise 1 8");
    promise(17, "BEYOND. NONE.");
    refused(Run.of("priest 0 0"), BEYOND, "when 0 1000", "when 1 999");
    promise(18, "BEYOND. NONE.");
    refused(Run.told("priest stuffed 61"), BEYOND, "wordsFor 6 1", "wordsFor 0 61");
    promise(19, "BEYOND. NONE.");
    refused(Run.told("priest knows 1 stuffed 61"), BEYOND, "waterFor 61", "waterFor -1");
    promise(22, "BEYOND. NONE.");
    refused(Run.told("priest knows 1 stuffed 61"), BEYOND, "fast 21", "fast -1");
    promise(23, "BEYOND. NONE.");
    refused(empty(), BEYOND, "cover 256", "cover -1");
    promise(30, "BEYOND: n. FULL.");
    refused(crowded(), BEYOND, "feed 9 5", "feed 9 0");
  }

  static void beyondBeforeState() {
    terms(IN_ORDER);
    promise(11, "BEYOND. STATE: DAY would be above 99999.");
    promise(27, "BEYOND. STATE: DAY would be above 99999.");
    refused(TermsEdges.onTheLastDay(), BEYOND, "go 61", "go 0", "come 21", "come 0");
  }

  static void sheetThenMissingThenPriest() {
    terms(IN_ORDER);
    promise(24, "BEYOND: no such sheet. MISSING. BEYOND: no such PRIEST.");
    refused(rich(), BEYOND, "fits 4 9");
    refused(rich(), MISSING, "fits 3 9", "fits 3 -1");
    promise(25, "BEYOND, MISSING, BEYOND likewise. NONE.");
    refused(rich(), BEYOND, "words 4 9", "words 0 9");
    refused(rich(), MISSING, "words 3 9", "words 3 -1");
    promise(26, "BEYOND: no such sheet. MISSING. BEYOND: no such PRIEST.");
    refused(rich(), BEYOND, "kinds 4 9");
    refused(rich(), MISSING, "kinds 3 9", "kinds 3 -1");
  }

  static void spotAndKindThenMissingThenKind() {
    terms(IN_ORDER);
    promise(34, "BEYOND. MISSING: it holds nothing. KIND: it isn't of that kind, nor of one under it.");
    refused(rich(), BEYOND, "as 1 7", "as 1 -1", "as 10 7", "as 10 0");
    refused(rich(), MISSING, "as 1 5");
  }

  static void sheetAndBitsThenSizeThenTooMany() {
    terms(IN_ORDER);
    promise(35, "BEYOND: no such sheet, other bits. SIZE: n is below 0 (also with bits 0). BEYOND: n is above 40 (also with "
        + "bits 0).");
    refused(rich(), BEYOND, "sheet 4 8 -1", "sheet 0 7 -1", "sheet 4 7 -1", "sheet 0 7 41");
    refused(rich(), SIZE, "sheet 0 0 -1", "sheet 3 0 -1");
  }

  static void sheetThenMissingThenNumber() {
    terms(IN_ORDER);
    promise(36, "BEYOND: no such sheet. MISSING. BEYOND: no such number.");
    refused(rich(), BEYOND, "write 4 99 1");
    refused(rich(), MISSING, "write 3 99 1", "write 3 -1 1");
  }

  static void sheetsThenMissingThenKindThenNumbers() {
    terms(IN_ORDER);
    promise(37, "BEYOND: no such sheet (either). MISSING: one is. KIND: they are not of as many bits. BEYOND: one has not so "
        + "many, or from, to or n is below 0.");
    refused(rich(), BEYOND, "copy 4 0 3 0 1", "copy 3 0 4 0 1", "copy 3 -1 -1 0 1");
    refused(rich(), MISSING, "copy 3 -1 0 0 1", "copy 0 0 3 99 1", "copy 3 0 3 0 -1");
    refused(rich(), KIND, "copy 0 -1 1 0 1", "copy 0 0 1 99 1", "copy 0 0 2 0 -1", "copy 1 99 0 0 99");
  }

  // ---- what only looks ahead or around

  /** Not refused, and yet nothing changes: what the searches live through is no day of this mission. */
  static void whatOnlyAsksChangesNothing() {
    quote("Terms", "---- what will be (nothing changes).");
    String[] calls = {
      "listed 0", "of 0 6", "swells 0 9", "goes 1", "now 3", "ahead 0 1 100", "ill 0", "out 4", "wise 0 1", "when 0 45",
      "wordsFor 2 60", "waterFor 60", "spare 0 60", "kindFor 0 60", "fast 20", "cover 1", "fits 0 0", "kinds 0 0",
      "odds 0 20 1", "as 0 0", "judge 0", "count 6", "status -1",
    };
    for (String call : calls) {
      Run x = rich().then("list 2 40");
      List<String> want = x.twin().looks();
      long answer = x.ask(call);
      due(call + " is no finding", answer >= -1000000, true);
      due("what is seen behind " + call, x.looks(), want);
    }
  }
}
