import java.nio.charset.StandardCharsets;

/** One method for each promise of the document; what is due was reckoned by hand from its words. */
public final class PromiseTests {

  private static final int BEYOND = -1000001;
  private static final int FULL = -1000002;
  private static final int KIND = -1000003;
  private static final int NONE = -1000004;
  private static final int STATE = -1000005;
  private static final int MISSING = -1000006;
  private static final int SIZE = -1000007;

  private static final int CURATE = 1;
  private static final int ENVIOUS = 2;
  private static final int SWEET = 3;
  private static final int SAINT = 4;
  private static final int BISHOP = 5;
  private static final int HUNGRY = 6;

  private static int promise = 0;
  private static int asked = 0;
  private static int wrong = 0;

  private static void due(String call, long got, long want) {
    asked++;
    if (got != want) {
      wrong++;
      System.out.println("promise " + promise + ": " + call + " answered " + got + ", due is " + want);
    }
  }

  private static void feedAll(RicePriests x, String text) {
    byte[] bytes = text.getBytes(StandardCharsets.ISO_8859_1);
    for (int i = 0; i < bytes.length; i++) {
      x.feed(bytes[i], 1);
    }
  }

  private static long read(RicePriests x, String text) {
    x.wipe();
    feedAll(x, text);
    return x.text();
  }

  private static RicePriests told(String... texts) {
    RicePriests x = new RicePriests();
    for (String text : texts) {
      long items = read(x, text);
      if (items < 1) {
        throw new IllegalStateException("a test's own text is wrong: " + text + " " + items);
      }
    }
    return x;
  }

  private static void fill(RicePriests x, int s, int bits, int... numbers) {
    x.sheet(s, bits, numbers.length);
    for (int i = 0; i < numbers.length; i++) {
      x.write(s, i, numbers[i]);
    }
  }

  private static void newObject() {
    RicePriests x = new RicePriests();
    int[] now = {0, 0, 0, 0, 0, -1, 0, 255};
    int[] count = {0, 0, 0, 0, 0, 0, 1, 0};
    for (int what = 0; what < 8; what++) {
      due("now(" + what + ")", x.now(what), now[what]);
      due("count(" + what + ")", x.count(what), count[what]);
    }
    for (int i = 0; i < 6; i++) {
      due("listed(" + i + ")", x.listed(i), 0);
    }
    for (int which = -1; which < 7; which++) {
      due("status(" + which + ")", x.status(which), 0);
    }
    due("set(0, 3)", x.set(0, 3), 2);
    due("set(1, 0)", x.set(1, 0), 0);
    due("wipe()", x.wipe(), 0);
    due("tear()", x.tear(), 0);
    due("undo()", x.undo(), NONE);
    due("of(0, 0)", x.of(0, 0), BEYOND);
    due("goes(0)", x.goes(0), NONE);
    for (int s = 0; s < 4; s++) {
      due("load(" + s + ")", x.load(s), MISSING);
    }
    for (int spot = 0; spot < 10; spot++) {
      due("as(" + spot + ", 0)", x.as(spot, 0), MISSING);
    }
    x.priest(0, 255);
    int[] of = {0, 0, 255, 0, 0, 0, 60, 60, 5, 0};
    for (int what = 0; what < 10; what++) {
      due("of(0, " + what + ")", x.of(0, what), of[what]);
    }
  }

  private static void set() {
    RicePriests x = new RicePriests();
    due("set(0, 9)", x.set(0, 9), 2);
    due("set(0, 0)", x.set(0, 0), 9);
    due("set(0, 10)", x.set(0, 10), BEYOND);
    due("set(0, -1)", x.set(0, -1), BEYOND);
    due("set(0, 4)", x.set(0, 4), 0);
    due("set(1, 255)", x.set(1, 255), 0);
    due("set(1, 256)", x.set(1, 256), BEYOND);
    due("set(1, -1)", x.set(1, -1), BEYOND);
    due("now(1)", x.now(1), 255);
    due("set(1, 6)", x.set(1, 6), 255);
    due("set(2, 0)", x.set(2, 0), BEYOND);
    due("set(-1, 0)", x.set(-1, 0), BEYOND);
    due("set(0, 4)", x.set(0, 4), 4);
    due("set(1, 6)", x.set(1, 6), 6);
  }

  private static void list() {
    RicePriests x = new RicePriests();
    due("list(0, 740)", x.list(0, 740), 0);
    due("list(0, 300)", x.list(0, 300), 740);
    due("list(0, 741)", x.list(0, 741), BEYOND);
    due("list(0, 41)", x.list(0, 41), BEYOND);
    due("list(0, 99)", x.list(0, 99), BEYOND);
    due("list(0, 199)", x.list(0, 199), BEYOND);
    due("list(0, 800)", x.list(0, 800), BEYOND);
    due("list(0, -1)", x.list(0, -1), BEYOND);
    due("list(0, -100)", x.list(0, -100), BEYOND);
    due("list(6, 0)", x.list(6, 0), BEYOND);
    due("list(-1, 0)", x.list(-1, 0), BEYOND);
    due("list(5, 40)", x.list(5, 40), 0);
    due("list(5, 0)", x.list(5, 0), 40);
    due("list(0, 0)", x.list(0, 0), 300);
  }

  private static void listed() {
    RicePriests x = new RicePriests();
    x.list(0, 101);
    x.list(5, 740);
    due("listed(0)", x.listed(0), 101);
    due("listed(5)", x.listed(5), 740);
    due("listed(1)", x.listed(1), 0);
    due("listed(6)", x.listed(6), BEYOND);
    due("listed(-1)", x.listed(-1), BEYOND);
    due("listed(MIN)", x.listed(Integer.MIN_VALUE), BEYOND);
  }

  private static void priest() {
    RicePriests x = new RicePriests();
    due("priest(7, 0)", x.priest(7, 0), BEYOND);
    due("priest(-1, 0)", x.priest(-1, 0), BEYOND);
    due("priest(0, 256)", x.priest(0, 256), BEYOND);
    due("priest(0, -1)", x.priest(0, -1), BEYOND);
    for (int p = 0; p < 8; p++) {
      due("priest(" + p % 7 + ", " + p + ")", x.priest(p % 7, 200 + p), p);
    }
    due("priest(0, 1) as a 9th", x.priest(0, 1), FULL);
    due("priest(7, 1) as a 9th", x.priest(7, 1), BEYOND);
    due("priest(0, 256) as a 9th", x.priest(0, 256), BEYOND);
    due("of(7, 0)", x.of(7, 0), 0);
    due("of(7, 2)", x.of(7, 2), 207);
    due("of(6, 0)", x.of(6, 0), 6);
    due("count(1)", x.count(1), 8);
    x = told("out 1; bishop takes 4 knows 7 stuffed 9");
    x.image();
    x.undo();
    due("priest(3, 0)", x.priest(3, 0), 1);
    x.change(1, 1, 99);
    x.change(1, 3, 99);
    x.change(1, 4, 99);
    x.change(1, 5, 99);
    x.undo();
    x.priest(2, 5);
    int[] fresh = {2, 0, 5, 0, 0, 0, 30, 30, 8, 0};
    for (int what = 0; what < 10; what++) {
      due("of(1, " + what + ") of a new one", x.of(1, what), fresh[what]);
    }
  }

  private static void of() {
    // Each kind knows two sins, heard 3, is stuffed by 12; water is 4.
    int[] holds = {60, 40, 60, 50, 100, 63, 100};
    int[] digests = {5, 9, 8, 6, 1, 5, 16};
    int[] keeps = {0, 0, 0, 0, 1, 1, 0};
    RicePriests x = new RicePriests();
    x.set(0, 4);
    for (int kind = 0; kind < 7; kind++) {
      x.priest(kind, 17);
      x.change(kind, 1, 12);
      x.change(kind, 3, 130);
      x.change(kind, 4, 3);
      x.change(kind, 5, 8);
      int[] want = {kind, 12, 17, 130, 3, 8, holds[kind], holds[kind] - 12, digests[kind], keeps[kind]};
      for (int what = 0; what < 10; what++) {
        due("of(" + kind + ", " + what + ")", x.of(kind, what), want[what]);
      }
    }
    int[] emptyHolds = {60, 40, 30, 40, 80, 60, 70};
    for (int kind = 0; kind < 7; kind++) {
      x.change(kind, 3, 0);
      x.change(kind, 4, 0);
      due("of(" + kind + ", 6) knowing nothing", x.of(kind, 6), emptyHolds[kind]);
      x.change(kind, 1, 90);
      due("of(" + kind + ", 7) below 0", x.of(kind, 7), emptyHolds[kind] - 90);
    }
    x.set(0, 0);
    due("of(1, 8) without water", x.of(1, 8), 5);
    due("of(3, 8) without water", x.of(3, 8), 2);
    x.change(5, 4, 39);
    due("of(5, 6) of 39 heard", x.of(5, 6), 99);
    x.change(5, 4, 38);
    due("of(5, 6) of 38 heard", x.of(5, 6), 98);
    x.change(5, 4, 9999);
    due("of(5, 6) of 9999 heard", x.of(5, 6), 99);
    x.change(5, 3, 7);
    due("of(5, 9) knowing 3", x.of(5, 9), 1);
    x.change(5, 3, 135);
    due("of(5, 9) knowing 4", x.of(5, 9), 0);
    x.change(3, 3, 255);
    x.change(4, 3, 255);
    due("of(3, 6) knowing all", x.of(3, 6), 80);
    due("of(4, 6) knowing all", x.of(4, 6), 160);
    x.go(6);
    due("of(5, 8) on day 6", x.of(5, 8), 0);
    x.go(1);
    due("of(5, 8) on day 7", x.of(5, 8), 5);
    x.go(6);
    due("of(5, 8) on day 13", x.of(5, 8), 0);
    due("of(7, 0)", x.of(7, 0), BEYOND);
    due("of(-1, 0)", x.of(-1, 0), BEYOND);
    due("of(0, 10)", x.of(0, 10), BEYOND);
    due("of(0, -1)", x.of(0, -1), BEYOND);
  }

  private static void change() {
    RicePriests x = told("sweet takes 7 knows 9 stuffed 5");
    int[] first = {SWEET, 5, 7, 9, 0, 0};
    int[] most = {6, 999, 255, 255, 9999, 9999};
    for (int what = 0; what < 6; what++) {
      due("change(0, " + what + ", most)", x.change(0, what, most[what]), first[what]);
      due("change(0, " + what + ", more)", x.change(0, what, most[what] + 1), BEYOND);
      due("change(0, " + what + ", -1)", x.change(0, what, -1), BEYOND);
      due("change(0, " + what + ", 0)", x.change(0, what, 0), most[what]);
      due("of(0, " + what + ")", x.of(0, what), 0);
    }
    due("change(0, 6, 0)", x.change(0, 6, 0), BEYOND);
    due("change(0, -1, 0)", x.change(0, -1, 0), BEYOND);
    due("change(1, 0, 0)", x.change(1, 0, 0), BEYOND);
    due("change(-1, 0, 0)", x.change(-1, 0, 0), BEYOND);
    x = told("priest knows 3 stuffed 20");
    x.change(0, 0, SAINT);
    due("of(0, 6) after change", x.of(0, 6), 100);
    due("of(0, 1) after change", x.of(0, 1), 20);
  }

  private static void swells() {
    RicePriests x = new RicePriests();
    for (int kind = 0; kind < 7; kind++) {
      x.priest(kind, 0);
    }
    int[] by220 = {20, 18, 20, 23, 23, 20, 10};
    int[] by320 = {20, 18, 6, 18, 18, 20, 3};
    int[] by1 = {1, 0, 1, 5, 5, 1, 0};
    int[] by700 = {0, 0, 0, 0, 0, 0, 0};
    for (int kind = 0; kind < 7; kind++) {
      due("swells(" + kind + ", 220)", x.swells(kind, 220), by220[kind]);
      due("swells(" + kind + ", 320)", x.swells(kind, 320), by320[kind]);
      due("swells(" + kind + ", 1)", x.swells(kind, 1), by1[kind]);
      due("swells(" + kind + ", 700)", x.swells(kind, 700), by700[kind]);
    }
    x.set(0, 9);
    due("swells(1, 709) with water 9", x.swells(1, 709), 0);
    due("swells(1, 710) with water 9", x.swells(1, 710), 1);
    due("swells(3, 9) with water 9", x.swells(3, 9), 5);
    x.change(5, 3, 4);
    due("swells(5, 220), known", x.swells(5, 220), 30);
    due("swells(5, 320), not known", x.swells(5, 320), 20);
    due("of(5, 1)", x.of(5, 1), 0);
    due("swells(0, 740)", x.swells(0, 740), 40);
    due("swells(0, 741)", x.swells(0, 741), BEYOND);
    due("swells(0, 800)", x.swells(0, 800), BEYOND);
    due("swells(0, -1)", x.swells(0, -1), BEYOND);
    due("swells(7, 0)", x.swells(7, 0), BEYOND);
    due("swells(-1, 0)", x.swells(-1, 0), BEYOND);
  }

  private static void goes() {
    RicePriests x = told("curate takes 1; priest takes 3; priest takes 3; bishop takes 4");
    due("goes(0)", x.goes(0), 1);
    due("goes(1)", x.goes(1), 1);
    due("goes(2)", x.goes(2), 3);
    due("goes(3)", x.goes(3), NONE);
    due("goes(8)", x.goes(8), BEYOND);
    due("goes(-1)", x.goes(-1), BEYOND);
    due("goes(7)", x.goes(7), NONE);
    x.change(3, 2, 132);
    due("goes(7)", x.goes(7), 3);
    x.change(1, 1, 1);
    due("goes(0), 1 less full", x.goes(0), 2);
    x.change(2, 1, 25);
    x.change(1, 1, 25);
    due("goes(0), both fuller", x.goes(0), 0);
    x.change(3, 1, 900);
    due("goes(2), below 0", x.goes(2), 3);
    x.change(0, 1, 141);
    x.change(1, 1, 160);
    x.change(2, 1, 161);
    due("goes(0), all below 0", x.goes(0), 1);
  }

  private static void dies() {
    RicePriests x = told("priest knows 1 stuffed 10; curate knows 2; saint knows 4 stuffed 40; saint knows 8 stuffed 40");
    due("dies(0)", x.dies(0), 2);
    due("of(2, 3)", x.of(2, 3), 5);
    due("of(0, 3)", x.of(0, 3), 0);
    due("of(0, 1)", x.of(0, 1), 0);
    due("of(0, 2)", x.of(0, 2), 0);
    due("now(1)", x.now(1), 0);
    due("count(1)", x.count(1), 4);
    due("dies(2): 0 has most room", x.dies(2), 0);
    due("of(0, 3)", x.of(0, 3), 5);
    due("dies(2) again: 2 is not another one", x.dies(2), 0);
    due("dies(4)", x.dies(4), BEYOND);
    due("dies(-1)", x.dies(-1), BEYOND);
    x = told("priest knows 9 stuffed 50; priest stuffed 999; hungry stuffed 999");
    x.change(0, 4, 7);
    x.change(0, 5, 8);
    due("dies(0), others below 0", x.dies(0), 2);
    due("of(2, 3)", x.of(2, 3), 9);
    due("of(0, 4)", x.of(0, 4), 7);
    due("of(0, 5)", x.of(0, 5), 8);
    due("of(0, 0)", x.of(0, 0), 0);
    x = told("priest takes 4 knows 3 stuffed 5");
    due("dies(0) alone", x.dies(0), NONE);
    due("of(0, 1)", x.of(0, 1), 5);
    due("of(0, 2)", x.of(0, 2), 4);
    due("of(0, 3)", x.of(0, 3), 3);
  }

  private static void go() {
    RicePriests x = told("priest; told 0 1 40; told 1 2 40");
    due("go(1)", x.go(1), 0);
    due("of(0, 1): 40 less 5", x.of(0, 1), 35);
    due("of(0, 3)", x.of(0, 3), 2);
    due("of(0, 4)", x.of(0, 4), 1);
    due("go(1): ill by 75", x.go(1), 6);
    due("of(0, 1)", x.of(0, 1), 0);
    due("of(0, 3)", x.of(0, 3), 0);
    due("of(0, 4)", x.of(0, 4), 2);
    due("of(0, 5)", x.of(0, 5), 1);
    due("go(4)", x.go(4), 6);
    due("go(1): place 0 again", x.go(1), 6);
    due("of(0, 1)", x.of(0, 1), 35);
    due("go(0)", x.go(0), BEYOND);
    due("go(-1)", x.go(-1), BEYOND);
    due("go(61)", x.go(61), BEYOND);
    due("go(MAX)", x.go(Integer.MAX_VALUE), BEYOND);
    due("now(0)", x.now(0), 7);
    due("go(60)", x.go(60), 6);
    due("now(0)", x.now(0), 67);
    // Full to the brim is not ill; one more is.
    x = told("priest knows 1 stuffed 60; priest knows 2 stuffed 61");
    due("go(1)", x.go(1), 2);
    due("of(0, 1)", x.of(0, 1), 55);
    due("of(1, 1)", x.of(1, 1), 0);
    // Nobody takes it: kept. No words: nothing comes.
    x = told("priest takes 1; told 0 1 3; told 1 0 0; told 2 1 1");
    x.go(3);
    due("now(2)", x.now(2), 2);
    due("of(0, 3)", x.of(0, 3), 0);
    due("of(0, 4)", x.of(0, 4), 0);
    // Who keeps is ill all the same, but nothing is out.
    x = told("saint knows 3 stuffed 999; bishop knows 28 stuffed 999; bishop knows 240 stuffed 999");
    due("go(1)", x.go(1), 240);
    for (int p = 0; p < 3; p++) {
      due("of(" + p + ", 5)", x.of(p, 5), 1);
      due("of(" + p + ", 3)", x.of(p, 3), 0);
      due("of(" + p + ", 1)", x.of(p, 1), 0);
    }
    // A bishop swells by what he knew before; an envious one holds by what he knows then.
    x = told("bishop; told 0 0 20; told 1 0 20");
    x.go(1);
    due("of(0, 1)", x.of(0, 1), 15);
    x.go(1);
    due("of(0, 1)", x.of(0, 1), 40);
    x = told("envious; told 0 0 40");
    due("go(1): knows one, holds 60", x.go(1), 0);
    due("of(0, 1)", x.of(0, 1), 32);
    // A fourth sin undoes the bishop's keeping.
    x = told("bishop knows 7 stuffed 60; told 0 7 10");
    due("go(1)", x.go(1), 135);
    x = told("bishop knows 7 stuffed 59; told 0 0 10");
    due("go(1), known", x.go(1), 0);
    due("of(0, 5)", x.of(0, 5), 1);
    goOnAtTheLimits();
  }

  private static void goOnAtTheLimits() {
    // All three counts end; an image of a stuffed one shows the cut at 999.
    RicePriests x = told("saint takes 2 knows 255 stuffed 980; told 0 1 40");
    x.change(0, 4, 9999);
    x.change(0, 5, 9999);
    x.go(1);
    due("of(0, 4) at 9999", x.of(0, 4), 9999);
    due("of(0, 5) at 9999", x.of(0, 5), 9999);
    x = told("priest; told 0 0 1");
    x.change(0, 4, 9998);
    x.go(1);
    due("of(0, 4) from 9998", x.of(0, 4), 9999);
    // A bishop digests nothing on day 6, and 5 on the days about it.
    x = told("bishop stuffed 99");
    x.change(0, 4, 99);
    x.go(6);
    due("of(0, 1) on day 6", x.of(0, 1), 69);
    x.go(1);
    due("of(0, 1) on day 7", x.of(0, 1), 69);
    x.go(1);
    due("of(0, 1) on day 8", x.of(0, 1), 64);
    x = told("bishop");
    x.go(6);
    x.change(0, 1, 61);
    x.go(1);
    due("of(0, 1), ill on day 6", x.of(0, 1), 0);
    due("of(0, 5), ill on day 6", x.of(0, 5), 1);
    // Digested is not below 0.
    x = told("hungry stuffed 15; curate stuffed 7; sweet stuffed 5; saint stuffed 5");
    x.go(1);
    due("of(0, 1)", x.of(0, 1), 0);
    due("of(1, 1)", x.of(1, 1), 0);
    due("of(2, 1)", x.of(2, 1), 1);
    due("of(3, 1)", x.of(3, 1), 4);
    // The list is read by the day modulo 6, and the one with most room takes it.
    x = told("priest stuffed 30; priest stuffed 29; told 5 6 7");
    x.go(5);
    due("goes(6) on day 5", x.goes(6), 1);
    x.go(1);
    due("of(1, 1): 4 + 7 - 5", x.of(1, 1), 6);
    due("of(1, 3)", x.of(1, 3), 64);
    due("of(0, 1)", x.of(0, 1), 0);
    due("of(0, 3)", x.of(0, 3), 0);
  }

  /** Behind the 512th call all is free, but no shorter run comes to the last day. */
  private static void theLastDay() {
    RicePriests x = told("priest; told 0 0 1; told 3 7 2; told 4 7 2");
    for (int i = 0; i < 1666; i++) {
      x.go(60);
    }
    due("now(0)", x.now(0), 99960);
    due("go(40)", x.go(40), STATE);
    due("go(61)", x.go(61), BEYOND);
    due("go(38)", x.go(38), 0);
    due("come(2)", x.come(2), STATE);
    due("come(21)", x.come(21), BEYOND);
    due("count(6): nothing is drawn", x.count(6), 1);
    due("ahead(0, 4, 0)", x.ahead(0, 4, 0), 9999);
    x.change(0, 4, 0);
    due("ahead(0, 4, 100): place 2, then 3 for 99 days", x.ahead(0, 4, 100), 99);
    due("come(1)", x.come(1), 0);
    due("now(0)", x.now(0), 99999);
    due("come(1)", x.come(1), STATE);
    due("go(1)", x.go(1), STATE);
    due("status(4)", x.status(4), 4);
  }

  private static void now() {
    RicePriests x = told("priest takes 3 knows 5 stuffed 7; curate takes 9 knows 6 stuffed 31; saint takes 0 stuffed 31; out 9");
    x.change(0, 5, 4);
    x.change(2, 5, 9);
    int[] want = {0, 9, 0, 7, 69, 1, 13, 244};
    for (int what = 0; what < 8; what++) {
      due("now(" + what + ")", x.now(what), want[what]);
    }
    due("now(8)", x.now(8), BEYOND);
    due("now(-1)", x.now(-1), BEYOND);
    x.list(0, 740);
    x.go(2);
    due("now(0)", x.now(0), 2);
    due("now(2)", x.now(2), 1);
    x = told("priest; priest");
    due("now(5), nobody stuffed", x.now(5), 0);
  }

  private static void ahead() {
    RicePriests x = told("sweet; told 0 1 40; told 1 2 40");
    // Day 0: 38 less 4 is 34; day 1: 34 + 43 is 77, more than 50: ill.
    int[] whats = {1, 3, 4, 5, 6};
    int[][] want = {{0, 0, 0, 0, 40}, {34, 2, 1, 0, 45}, {0, 0, 2, 1, 40}};
    for (int n = 0; n < 3; n++) {
      for (int i = 0; i < 5; i++) {
        due("ahead(0, " + whats[i] + ", " + n + ")", x.ahead(0, whats[i], n), want[n][i]);
      }
    }
    due("ahead(0, 5, 100)", x.ahead(0, 5, 100), 17);
    due("ahead(0, 5, 101)", x.ahead(0, 5, 101), BEYOND);
    due("ahead(0, 5, -1)", x.ahead(0, 5, -1), BEYOND);
    for (int what : new int[] {-1, 0, 2, 7, 8, 9, 10}) {
      due("ahead(0, " + what + ", 1)", x.ahead(0, what, 1), BEYOND);
    }
    due("ahead(1, 1, 1)", x.ahead(1, 1, 1), BEYOND);
    due("ahead(-1, 1, 1)", x.ahead(-1, 1, 1), BEYOND);
    due("now(0): nothing changes", x.now(0), 0);
    due("of(0, 4): nothing changes", x.of(0, 4), 0);
  }

  private static void ill() {
    RicePriests x = told("priest; told 0 1 40; told 1 2 40; curate takes 0 stuffed 41; saint takes 0");
    due("ill(0)", x.ill(0), 2);
    due("ill(1)", x.ill(1), 1);
    due("ill(2)", x.ill(2), NONE);
    due("ill(3)", x.ill(3), BEYOND);
    due("ill(-1)", x.ill(-1), BEYOND);
    x.change(1, 5, 9999);
    due("ill(1) at 9999", x.ill(1), NONE);
    due("now(6)", x.now(6), 9999);
    // Each 6 days 12 more than he digests: 999 words' worth never come to a saint of 80 but by days.
    x = told("saint takes 2; told 0 1 9");
    // 7 in, 6 out each 6 days, so 1 more each round: above 90 (knows one) behind round 84 or so: never within 200.
    due("ill(0), too slow", x.ill(0), NONE);
    x = told("saint takes 2; told 0 1 11");
    // 9 in, 6 out: before day 6k he is stuffed by 3k, then 3k + 9 > 90 at k = 28: day 168, ill behind 169 days.
    due("ill(0), slow", x.ill(0), 169);
    // On the way to the limit: 8 in and 6 out: 2k + 8 > 90 at k = 42: day 252.
    x = told("saint takes 2 stuffed 0; told 0 1 10");
    due("ill(0), too late", x.ill(0), NONE);
    // 200 days are asked, no more: first ill on day 198 + 1 or on day 199 + 1 or later.
    x = told("saint takes 2 stuffed 17; told 0 1 10; water 2");
    // Stuffed at 6k: 17 + 2k; 17 + 2k + 8 > 90 at k = 33: day 198, behind 199.
    due("ill(0), behind 199", x.ill(0), 199);
    x = told("saint takes 2 stuffed 17; told 1 1 10; water 2");
    // One day later: 16 + 2k + 8 > 90 at k = 34: day 205.
    due("ill(0), behind 206", x.ill(0), NONE);
    x = told("saint takes 2 stuffed 18; told 1 1 10");
    // 17 + 2k + 8 > 90 at k = 33: day 199, behind 200.
    due("ill(0), behind 200", x.ill(0), 200);
    x = told("saint takes 2 stuffed 19; told 2 1 10");
    // 17 + 2k + 8 > 90 at k = 33: day 200, behind 201.
    due("ill(0), behind 201", x.ill(0), NONE);
  }

  private static void out() {
    RicePriests x = told("priest; told 0 1 40; told 1 2 40; out 128");
    due("out(7)", x.out(7), 0);
    due("out(1)", x.out(1), 2);
    due("out(2)", x.out(2), 2);
    due("out(3)", x.out(3), NONE);
    due("out(8)", x.out(8), BEYOND);
    due("out(-1)", x.out(-1), BEYOND);
    due("now(1): nothing changes", x.now(1), 128);
    // A curate who digests 7: 13 - 2 in, 42 out. A sweet one of 0 water: 11 in, 12 out. Envied limits by 200 days:
    x = told("saint takes 2 stuffed 18; told 1 1 10");
    x.change(0, 0, 0);
    due("out(1) of a plain one who is never full", x.out(1), NONE);
    // With no water a sweet one takes in 13 and digests 12 in 6 days: stuffed at 6k by s + k, holds 45.
    x = told("water 0; sweet takes 2 stuffed 0; told 0 1 13");
    // k + 13 > 45 at k = 33: day 198, behind 199.
    due("out(1), behind 199", x.out(1), 199);
    x = told("water 0; sweet takes 2 stuffed 2; told 1 1 13");
    // After day 0 he is stuffed by 0: day 199, behind 200.
    due("out(1), behind 200", x.out(1), 200);
    x = told("water 0; sweet takes 2 stuffed 4; told 2 1 13");
    due("out(1), behind 201", x.out(1), NONE);
  }

  private static void wise() {
    RicePriests x = told("hungry; told 0 0 1; told 1 1 1; told 3 2 1; told 5 3 1");
    due("wise(0, 0)", x.wise(0, 0), 0);
    due("wise(0, 1)", x.wise(0, 1), 1);
    due("wise(0, 2)", x.wise(0, 2), 2);
    due("wise(0, 3)", x.wise(0, 3), 4);
    due("wise(0, 4)", x.wise(0, 4), 6);
    due("wise(0, 5)", x.wise(0, 5), NONE);
    due("wise(0, 8)", x.wise(0, 8), NONE);
    due("wise(0, 9)", x.wise(0, 9), BEYOND);
    due("wise(0, -1)", x.wise(0, -1), BEYOND);
    due("wise(1, 0)", x.wise(1, 0), BEYOND);
    x.change(0, 3, 112);
    due("wise(0, 3), known", x.wise(0, 3), 0);
    due("of(0, 3): nothing changes", x.of(0, 3), 112);
    x.change(0, 3, 255);
    due("wise(0, 8)", x.wise(0, 8), 0);
    // The saint has 90 - 3 k of room on day 6 k, the sweet one 40 for good: k is 17.
    x = told("saint takes 2; sweet takes 2; told 0 1 11");
    due("wise(1, 1), waiting", x.wise(1, 1), 103);
    x = told("saint takes 2; sweet takes 1; told 0 1 10; told 1 0 0");
    due("wise(1, 1), not by him", x.wise(1, 1), NONE);
    x = told("saint takes 2 stuffed 1; sweet takes 2; told 1 1 9; water 0");
    // Stuffed by 3 k on day 6 k + 1: 90 - 3 k < 40.
    due("wise(1, 1), by day 103", x.wise(1, 1), 104);
    wiseAtTheEnd();
  }

  private static void wiseAtTheEnd() {
    // A saint of 80 (he knows nothing at first; 90 then), by 2 more each 6 days; the sweet one has 40.
    RicePriests x = told("saint takes 2; sweet takes 2; told 0 1 10; water 2");
    // 90 - 2 k < 40 at k = 26: day 156.
    due("wise(1, 1)", x.wise(1, 1), 157);
    x = told("saint takes 2 knows 254; sweet takes 2; told 0 1 10");
    // 150 - 2 k < 40 at k = 56: too late.
    due("wise(1, 1), too late", x.wise(1, 1), NONE);
    x = told("saint takes 2 knows 6; sweet takes 2; told 0 1 10");
    // 100 - 2 k < 40 at k = 31: day 186.
    due("wise(1, 1)", x.wise(1, 1), 187);
    x = told("saint takes 2 knows 14 stuffed 5; sweet takes 2; told 1 1 10");
    // 110 - 4 - 2 k < 40 at k = 34: day 205.
    due("wise(1, 1), too late by 5", x.wise(1, 1), NONE);
    x = told("saint takes 2 knows 14 stuffed 6; sweet takes 2; told 1 1 10");
    // 110 - 5 - 2 k < 40 at k = 33: day 199.
    due("wise(1, 1), behind 200", x.wise(1, 1), 200);
    x = told("saint takes 2 knows 14 stuffed 7; sweet takes 2; told 2 1 10");
    // The same a day later.
    due("wise(1, 1), behind 201", x.wise(1, 1), NONE);
  }

  private static void when() {
    RicePriests x = told("priest; told 0 1 20; told 1 2 22");
    due("when(0, 0)", x.when(0, 0), 0);
    due("when(0, 1)", x.when(0, 1), 1);
    due("when(0, 15)", x.when(0, 15), 1);
    due("when(0, 16)", x.when(0, 16), 2);
    due("when(0, 32)", x.when(0, 32), 2);
    due("when(0, 33)", x.when(0, 33), 8);
    due("when(0, 44)", x.when(0, 44), 8);
    due("when(0, 45): he is ill before", x.when(0, 45), NONE);
    due("when(0, 61)", x.when(0, 61), NONE);
    due("when(0, 999)", x.when(0, 999), NONE);
    due("when(0, 1000)", x.when(0, 1000), BEYOND);
    due("when(0, -1)", x.when(0, -1), BEYOND);
    due("when(1, 0)", x.when(1, 0), BEYOND);
    due("of(0, 1): nothing changes", x.of(0, 1), 0);
    x.change(0, 1, 999);
    due("when(0, 999)", x.when(0, 999), 0);
    // 2 more in each 6 days: behind day 6k + 1 he is stuffed by 2k + 7.
    x = told("saint takes 2; told 0 1 10");
    due("when(0, 73), behind 199", x.when(0, 73), 199);
    x = told("saint takes 2 stuffed 1; told 1 1 10");
    due("when(0, 73), behind 200", x.when(0, 73), 200);
    x = told("saint takes 2 stuffed 2; told 2 1 10");
    due("when(0, 73), behind 201", x.when(0, 73), NONE);
  }

  private static void wordsFor() {
    RicePriests x = told("priest takes 2 stuffed 30; told 0 1 0; told 1 1 20");
    // Behind day 0: 30 + w - 5; then + 20 is 45 + w: ill by more than 60, so 15 words do; 30 + w <= 60, too.
    due("wordsFor(0, 0)", x.wordsFor(0, 0), 40);
    due("wordsFor(0, 1)", x.wordsFor(0, 1), 30);
    due("wordsFor(0, 2)", x.wordsFor(0, 2), 15);
    due("listed(0)", x.listed(0), 100);
    due("of(0, 1)", x.of(0, 1), 30);
    due("wordsFor(2, 2)", x.wordsFor(2, 2), 40);
    x.list(0, 740);
    due("wordsFor(0, 2), of another sin", x.wordsFor(0, 2), 40);
    x.change(0, 1, 61);
    due("wordsFor(0, 1), ill in any case", x.wordsFor(0, 1), NONE);
    x.change(0, 5, 9999);
    due("wordsFor(0, 1), ill no more than 9999", x.wordsFor(0, 1), 40);
    due("wordsFor(5, 1)", x.wordsFor(5, 1), 40);
    due("wordsFor(6, 0)", x.wordsFor(6, 0), BEYOND);
    due("wordsFor(-1, 0)", x.wordsFor(-1, 0), BEYOND);
    due("wordsFor(0, 60)", x.wordsFor(0, 60), 40);
    due("wordsFor(0, 61)", x.wordsFor(0, 61), BEYOND);
    due("wordsFor(0, -1)", x.wordsFor(0, -1), BEYOND);
    x = told("priest takes 2 stuffed 60; told 0 1 3");
    due("wordsFor(0, 1): none do", x.wordsFor(0, 1), 0);
    // More words do where fewer don't: what he knows makes an envious one hold more.
    x = told("envious takes 2 stuffed 31; told 0 1 0");
    due("wordsFor(0, 1)", x.wordsFor(0, 1), 29);
  }

  private static void waterFor() {
    RicePriests x = told("curate takes 2 stuffed 20; told 0 1 25");
    // 20 + 25 - water <= 40.
    due("waterFor(0)", x.waterFor(0), 0);
    due("waterFor(1)", x.waterFor(1), 5);
    due("set(0, 2)", x.set(0, 2), 2);
    x.change(0, 1, 30);
    due("waterFor(1)", x.waterFor(1), NONE);
    x.set(1, 2);
    due("waterFor(1), out already", x.waterFor(1), 0);
    due("waterFor(60)", x.waterFor(60), 0);
    due("waterFor(61)", x.waterFor(61), BEYOND);
    due("waterFor(-1)", x.waterFor(-1), BEYOND);
    due("of(0, 1)", x.of(0, 1), 30);
    x = told("curate takes 2 stuffed 24; told 0 1 25");
    due("waterFor(1): all of it", x.waterFor(1), 9);
    // Day 1: (20 + 25 - w) - (5 + w), and 20 - w more: 60 - 3 w <= 40.
    x = told("curate takes 2 stuffed 20; told 0 1 25; told 1 1 20");
    due("waterFor(1)", x.waterFor(1), 5);
    due("waterFor(2)", x.waterFor(2), 7);
    // A saint keeps it: ill, but nothing out.
    x = told("saint knows 1 stuffed 999");
    due("waterFor(1)", x.waterFor(1), 0);
  }

  private static void spare() {
    RicePriests x = told("priest takes 14; told 0 1 10; told 1 2 20; told 2 3 15");
    // Behind 3 days without sin 1: 25; without 2: 10; without 3: 15; else 30.
    due("spare(0, 3)", x.spare(0, 3), 2);
    due("spare(0, 1)", x.spare(0, 1), 1);
    due("spare(0, 0): all are alike", x.spare(0, 0), 0);
    due("of(0, 2): nothing changes", x.of(0, 2), 14);
    x.change(0, 2, 0);
    due("spare(0, 3): he takes none", x.spare(0, 3), 0);
    x.change(0, 2, 128);
    x.list(0, 740);
    due("spare(0, 1)", x.spare(0, 1), 7);
    due("spare(0, 60)", x.spare(0, 60), 7);
    due("spare(0, 61)", x.spare(0, 61), BEYOND);
    due("spare(0, -1)", x.spare(0, -1), BEYOND);
    due("spare(1, 0)", x.spare(1, 0), BEYOND);
    due("spare(-1, 0)", x.spare(-1, 0), BEYOND);
    // What he doesn't take goes to another.
    x = told("priest takes 2; priest takes 2; told 0 1 20; told 1 1 20");
    due("spare(0, 1)", x.spare(0, 1), 1);
    due("spare(1, 1)", x.spare(1, 1), 0);
    due("spare(1, 2)", x.spare(1, 2), 1);
  }

  private static void kindFor() {
    RicePriests x = told("priest stuffed 39; told 0 2 40");
    // A plain one and a curate are ill; an envious one, knowing then, holds 60 and is ill by 79; a sweet one holds 45
    // and is ill; a saint holds 90 and has 39 + 43.
    due("kindFor(0, 1)", x.kindFor(0, 1), SAINT);
    due("kindFor(0, 0)", x.kindFor(0, 0), 0);
    x.list(0, 340);
    due("kindFor(0, 1), of the third", x.kindFor(0, 1), ENVIOUS);
    x.list(0, 240);
    x.change(0, 1, 58);
    due("kindFor(0, 1), of the hungry", x.kindFor(0, 1), HUNGRY);
    x.change(0, 4, 38);
    due("kindFor(0, 1), of the bishop", x.kindFor(0, 1), BISHOP);
    x.list(0, 203);
    x.change(0, 1, 38);
    x.change(0, 4, 0);
    due("kindFor(0, 1), no matter", x.kindFor(0, 1), 0);
    x.change(0, 1, 999);
    due("kindFor(0, 1), all ill", x.kindFor(0, 1), 0);
    due("of(0, 0)", x.of(0, 0), 0);
    due("kindFor(0, 60)", x.kindFor(0, 60), 0);
    due("kindFor(0, 61)", x.kindFor(0, 61), BEYOND);
    due("kindFor(0, -1)", x.kindFor(0, -1), BEYOND);
    due("kindFor(1, 0)", x.kindFor(1, 0), BEYOND);
    due("kindFor(-1, 0)", x.kindFor(-1, 0), BEYOND);
    // Of one who drinks: (38 + 12 - 9) is more than 40, of 10 it isn't; a plain one holds 60 anyway.
    x = told("hungry stuffed 101; water 9");
    due("kindFor(0, 1), over all brims", x.kindFor(0, 1), 0);
  }

  private static void fast() {
    // Priest 0 alone falls ill of sin 1; the others are out of it.
    RicePriests x = told("curate takes 2 stuffed 35; curate takes 4 stuffed 35; told 0 1 20");
    due("fast(0)", x.fast(0), 0);
    due("fast(1)", x.fast(1), 1);
    x.list(0, 220);
    due("fast(1)", x.fast(1), 2);
    x.list(1, 110);
    due("fast(2)", x.fast(2), 2);
    x.list(1, 140);
    due("fast(2)", x.fast(2), 3);
    due("of(0, 2)", x.of(0, 2), 2);
    due("of(0, 1)", x.of(0, 1), 35);
    due("now(0)", x.now(0), 0);
    x.change(0, 1, 41);
    due("fast(1): ill, knowing nothing", x.fast(1), 2);
    x.change(0, 3, 64);
    due("fast(1): ill without a word", x.fast(1), NONE);
    x.set(1, 66);
    due("fast(1), out already", x.fast(1), 2);
    due("fast(20)", x.fast(20), 2);
    due("fast(21)", x.fast(21), BEYOND);
    due("fast(-1)", x.fast(-1), BEYOND);
    due("fast(5) of no priests", new RicePriests().fast(5), 0);
    x = told("priest stuffed 40; told 0 0 30");
    due("fast(1), of sin 0", x.fast(1), 1);
    x = told("priest stuffed 40; told 0 7 30");
    due("fast(1), of sin 7", x.fast(1), 1);
    // It goes to the next: both must fast, and of pairs the least.
    x = told("priest takes 2 stuffed 40; priest takes 2 stuffed 41; saint takes 2 stuffed 99; told 0 1 30");
    due("fast(1)", x.fast(1), 3);
    // One alone of a higher number is fewer than two of lower ones: 2 takes it all if he may.
    x = told("priest takes 2 knows 8 stuffed 50; saint takes 0; priest takes 0; priest takes 2 stuffed 40; told 0 1 25");
    due("fast(1)", x.fast(1), 9);
    x = told("envious takes 2 knows 8 stuffed 40; priest takes 2 stuffed 42; hungry takes 2 stuffed 9; told 0 1 30");
    due("fast(1): the hungry one eats it", x.fast(1), 0);
  }

  private static void cover() {
    RicePriests x = told("priest takes 3; priest takes 12; priest takes 5; priest takes 10; priest takes 15");
    due("cover(0)", x.cover(0), 0);
    due("cover(1)", x.cover(1), 1);
    due("cover(4)", x.cover(4), 2);
    due("cover(15)", x.cover(15), 16);
    due("cover(16)", x.cover(16), NONE);
    due("cover(255)", x.cover(255), NONE);
    due("cover(256)", x.cover(256), BEYOND);
    due("cover(-1)", x.cover(-1), BEYOND);
    x.change(4, 2, 0);
    due("cover(15): 0 and 1 before 2 and 3", x.cover(15), 3);
    due("cover(7)", x.cover(7), 3);
    due("cover(6)", x.cover(6), 3);
    due("cover(5)", x.cover(5), 4);
    x.change(4, 2, 240);
    due("cover(255)", x.cover(255), 19);
    due("cover(1) of no priests", new RicePriests().cover(1), NONE);
    due("cover(0) of no priests", new RicePriests().cover(0), 0);
  }

  private static void fits() {
    RicePriests x = told("priest takes 2 stuffed 10; told 0 1 7");
    due("fits(0, 0)", x.fits(0, 0), MISSING);
    due("fits(0, 9), of no priest", x.fits(0, 9), MISSING);
    due("fits(4, 9)", x.fits(4, 9), BEYOND);
    due("fits(-1, 0)", x.fits(-1, 0), BEYOND);
    x.sheet(0, 8, 0);
    due("fits(0, 0) of an empty sheet", x.fits(0, 0), 41);
    due("fits(0, 1)", x.fits(0, 1), BEYOND);
    due("fits(0, -1)", x.fits(0, -1), BEYOND);
    fill(x, 0, 8, 10, 12);
    // 10 + w - 5 is 12.
    due("fits(0, 0)", x.fits(0, 0), 1);
    fill(x, 0, 8, 9, 12);
    due("fits(0, 0), not so now", x.fits(0, 0), 0);
    fill(x, 0, 8, 255, 12);
    due("fits(0, 0), any now", x.fits(0, 0), 1);
    fill(x, 0, 16, -1, -1, 0);
    // 5 + w, less 5 again: 0 words only.
    due("fits(0, 0)", x.fits(0, 0), 1);
    fill(x, 0, 32, 10, -1, -1, 0);
    // 10 + w less 15: up to 5 words.
    due("fits(0, 0)", x.fits(0, 0), 6);
    fill(x, 0, 32, 10, -1, -1, -1, -1, -1, -1, 30);
    // 10 + w - 30 is 0 up to 20; then w - 5 is 30: no; 10 + w - 30 + w - 5 is 30 is no whole number.
    due("fits(0, 0)", x.fits(0, 0), 0);
    fill(x, 0, 32, 10, -1, -1, -1, -1, -1, -1, 31);
    // 2 w - 25 is 31: 28; each 6 days it comes again.
    due("fits(0, 0)", x.fits(0, 0), 1);
    due("words(0, 0)", x.words(0, 0), 28);
    fill(x, 0, 32, -2);
    due("fits(0, 0) of -2", x.fits(0, 0), 0);
    due("listed(0): nothing changes", x.listed(0), 107);
    due("of(0, 1): nothing changes", x.of(0, 1), 10);
    // The place is that of the day.
    x = told("priest; told 1 5 3");
    x.go(1);
    fill(x, 3, 8, -1, 4);
    due("fits(3, 0)", x.fits(3, 0), 1);
    due("words(3, 0)", x.words(3, 0), 9);
    x.change(0, 2, 223);
    due("fits(3, 0), of a sin that he doesn't take", x.fits(3, 0), 0);
  }

  private static void words() {
    RicePriests x = told("priest takes 2 stuffed 10; told 0 1 7");
    due("words(0, 0)", x.words(0, 0), MISSING);
    due("words(4, 5)", x.words(4, 5), BEYOND);
    due("words(3, 5)", x.words(3, 5), MISSING);
    fill(x, 0, 8, 10, 12);
    due("words(0, 0)", x.words(0, 0), 7);
    due("words(0, 1)", x.words(0, 1), BEYOND);
    due("words(0, -1)", x.words(0, -1), BEYOND);
    fill(x, 0, 8, 10, 45);
    due("words(0, 0)", x.words(0, 0), 40);
    fill(x, 0, 8, 10, 46);
    due("words(0, 0)", x.words(0, 0), NONE);
    fill(x, 0, 8, -1, -1);
    due("words(0, 0)", x.words(0, 0), 0);
    x.change(0, 1, 30);
    fill(x, 0, 8, 30, 0);
    // Ill of more than 30 words.
    due("words(0, 0)", x.words(0, 0), 31);
    due("fits(0, 0)", x.fits(0, 0), 10);
  }

  private static void kinds() {
    RicePriests x = told("curate takes 4 stuffed 20; told 0 2 13");
    due("kinds(0, 0)", x.kinds(0, 0), MISSING);
    due("kinds(4, 5)", x.kinds(4, 5), BEYOND);
    due("kinds(0, 5)", x.kinds(0, 5), MISSING);
    x.sheet(0, 8, 0);
    due("kinds(0, 0) of an empty sheet", x.kinds(0, 0), 127);
    due("kinds(0, 1)", x.kinds(0, 1), BEYOND);
    due("kinds(0, -1)", x.kinds(0, -1), BEYOND);
    // 20 + 13 - 5; 20 + 11 - 7; 20 + 13 - 8; 20 + 16 - 4; 20 + 16 - 1; 20 + 13 - 5; 20 + 6 - 16.
    int[] behind = {28, 24, 25, 32, 35, 28, 10};
    int[] sets = {33, 2, 4, 8, 16, 33, 64};
    for (int kind = 0; kind < 7; kind++) {
      fill(x, 0, 8, 20, behind[kind]);
      due("kinds(0, 0) of " + behind[kind], x.kinds(0, 0), sets[kind]);
    }
    fill(x, 0, 8, 20, 11);
    due("kinds(0, 0) of 11", x.kinds(0, 0), 0);
    fill(x, 0, 8, 21);
    due("kinds(0, 0) of 21 now", x.kinds(0, 0), 0);
    fill(x, 0, 8, 20);
    due("kinds(0, 0) of 20 now", x.kinds(0, 0), 127);
    due("of(0, 0): nothing changes", x.of(0, 0), 1);
  }

  private static void come() {
    RicePriests x = told("saint");
    // From 1: z is 1103527590, drawn 4310654, by 8: 6; then 2524885223, drawn 9862832, by 41: 36.
    long z = 1;
    int[] sins = new int[8];
    int[] words = new int[8];
    for (int i = 0; i < 8; i++) {
      z = (z * 1103515245L + 12345L) & 0xffffffffL;
      sins[i] = (int) (z / 256 % 8);
      z = (z * 1103515245L + 12345L) & 0xffffffffL;
      words[i] = (int) (z / 256 % 41);
    }
    due("come(1)", x.come(1), 0);
    due("listed(0)", x.listed(0), 636);
    due("now(0)", x.now(0), 1);
    due("of(0, 4)", x.of(0, 4), words[0] > 0 ? 1 : 0);
    x.come(7);
    due("now(0)", x.now(0), 8);
    for (int i = 2; i < 8; i++) {
      due("listed(" + i % 6 + ")", x.listed(i % 6), 100 * sins[i] + words[i]);
    }
    due("count(6)", x.count(6), (int) z);
    due("come(0)", x.come(0), BEYOND);
    due("come(21)", x.come(21), BEYOND);
    due("come(-1)", x.come(-1), BEYOND);
    due("count(6)", x.count(6), (int) z);
    x.come(20);
    due("now(0)", x.now(0), 28);
    x = told("priest knows 3 stuffed 99; out 4");
    x.seed(-77);
    due("come(1) tells what is out", x.come(1) & 7, 7);
    due("come(1) is told as now(1)", x.come(1), x.now(1));
  }

  private static void odds() {
    RicePriests x = told("priest takes 0; priest takes 1; priest takes 3; priest takes 7",
        "priest takes 90; priest takes 124; priest takes 63; priest takes 127");
    long[][] lowest = {{0, 1}, {1, 8}, {1, 4}, {3, 8}, {1, 2}, {5, 8}, {3, 4}, {7, 8}};
    for (int p = 0; p < 8; p++) {
      long above = 1;
      long below = 1;
      for (int n = 0; n <= 20; n++) {
        due("odds(" + p + ", " + n + ", 0)", x.odds(p, n, 0), above);
        due("odds(" + p + ", " + n + ", 1)", x.odds(p, n, 1), below);
        above *= lowest[p][0];
        below *= lowest[p][1];
      }
    }
    due("odds(1, 20, 1)", x.odds(1, 20, 1), 1L << 60);
    x.change(0, 2, 255);
    due("odds(0, 20, 0)", x.odds(0, 20, 0), 1);
    due("odds(0, 20, 1)", x.odds(0, 20, 1), 1);
    due("odds(0, 21, 0)", x.odds(0, 21, 0), BEYOND);
    due("odds(0, -1, 0)", x.odds(0, -1, 0), BEYOND);
    due("odds(0, 1, 2)", x.odds(0, 1, 2), BEYOND);
    due("odds(0, 1, -1)", x.odds(0, 1, -1), BEYOND);
    due("odds(8, 1, 0)", x.odds(8, 1, 0), BEYOND);
    due("odds(-1, 1, 0)", x.odds(-1, 1, 0), BEYOND);
    due("status(0)", x.status(0), 6);
    due("count(6): nothing is drawn", x.count(6), 1);
  }

  private static void seed() {
    RicePriests x = new RicePriests();
    due("seed(5)", x.seed(5), 1);
    due("seed(-1000001)", x.seed(BEYOND), 5);
    due("count(6)", x.count(6), BEYOND);
    due("seed(MIN)", x.seed(Integer.MIN_VALUE), BEYOND);
    due("seed(MAX)", x.seed(Integer.MAX_VALUE), Integer.MIN_VALUE);
    due("seed(0)", x.seed(0), Integer.MAX_VALUE);
    due("status(-1): no finding", x.status(-1), 0);
    x.come(1);
    x.come(1);
    RicePriests y = new RicePriests();
    y.seed(0);
    y.come(2);
    due("listed(0)", x.listed(0), y.listed(0));
    due("listed(1)", x.listed(1), y.listed(1));
  }

  private static void feed() {
    RicePriests x = new RicePriests();
    due("feed(0, 0)", x.feed(0, 0), BEYOND);
    due("feed(0, 5)", x.feed(0, 5), BEYOND);
    due("feed(0, -1)", x.feed(0, -1), BEYOND);
    due("count(5)", x.count(5), 0);
    // out 3, the highest byte first; of fewer bytes the lowest.
    due("feed('out ', 4)", x.feed(0x6f757420, 4), 4);
    due("feed('xyz3', 1)", x.feed(0x78797a33, 1), 5);
    due("text()", x.text(), 1);
    due("now(1)", x.now(1), 3);
    due("feed('?out', 3)", x.feed(0x3f6f7574, 3), 3);
    due("feed('?? 9', 2)", x.feed(0x3f3f2039, 2), 5);
    due("text()", x.text(), 1);
    due("now(1)", x.now(1), 9);
    for (int i = 1; i <= 29; i++) {
      due("feed(0, 4)", x.feed(0, 4), 4 * i);
    }
    due("feed(0, 1)", x.feed(0, 1), 117);
    due("feed(0, 4)", x.feed(0, 4), FULL);
    due("feed(0, 5)", x.feed(0, 5), BEYOND);
    due("count(5)", x.count(5), 117);
    due("feed(0, 3)", x.feed(0, 3), 120);
    due("feed(0, 1)", x.feed(0, 1), FULL);
    due("status(1)", x.status(1), 2);
    due("text(): a byte 0", x.text(), -1);
  }

  private static void wipe() {
    RicePriests x = new RicePriests();
    due("wipe()", x.wipe(), 0);
    x.feed(0, 4);
    x.feed(0, 3);
    due("wipe()", x.wipe(), 7);
    due("wipe()", x.wipe(), 0);
    due("count(5)", x.count(5), 0);
    feedAll(x, "water 7");
    due("text(): nothing of what was wiped", x.text(), 1);
    due("set(0, 0)", x.set(0, 0), 7);
  }

  private static void text() {
    RicePriests x = told("priest; curate takes 1; envious knows 2; sweet stuffed 3; saint takes 4 knows 5 stuffed 6");
    due("text()", read(x, "bishop takes 0 stuffed 999;hungry knows 255"), 2);
    int[][] of = {{0, 0, 255, 0}, {CURATE, 0, 1, 0}, {ENVIOUS, 0, 255, 2}, {SWEET, 3, 255, 0}, {SAINT, 6, 4, 5},
        {BISHOP, 999, 0, 0}, {HUNGRY, 0, 255, 255}};
    for (int p = 0; p < 7; p++) {
      for (int what = 0; what < 6; what++) {
        due("of(" + p + ", " + what + ")", x.of(p, what), what < 4 ? of[p][what] : 0);
      }
    }
    due("count(5): the tape is empty", x.count(5), 0);
    due("text()", read(x, "told 0 7 40;told 5 0 0;told 1 3 9;water 0;out 255"), 5);
    due("listed(0)", x.listed(0), 740);
    due("listed(5)", x.listed(5), 0);
    due("listed(1)", x.listed(1), 309);
    due("now(1)", x.now(1), 255);
    due("text(), item by item", read(x, "out 1;out 2;water 3;water 9"), 4);
    due("now(1)", x.now(1), 2);
    due("set(0, 2)", x.set(0, 2), 9);
    due("text(), blanks", read(x, "   priest takes3knows4stuffed5   "), 1);
    due("of(7, 1)", x.of(7, 1), 5);
    due("text(), a 9th", read(x, "out 5; hungry takes 1"), -8);
    due("now(1): as before", x.now(1), 2);
    due("text(), noughts", read(x, "water 0000000000000004"), 1);
    due("set(0, 2)", x.set(0, 2), 4);
    due("status(-1): no finding", x.status(-1), 0);
    faults();
  }

  private static void faults() {
    RicePriests x = told("out 77; priest");
    String[] texts = {
      "", "   ", ";", "priest;", "priest; ", "priest ;; out 1", "priest priest", "priests", "Priest", "priesT",
      "pri est", "12", "priest 12", "priest takes", "priest takes ", "priest takes ;", "priest takes 256",
      "priest takes 9999", "priest takes 10000", "priest takes 99999999999999999999", "priest takes 4294967297",
      "priest knows 256", "priest stuffed 1000", "priest stuffed 999 knows 1", "priest knows 1 takes 1",
      "priest takes 1 takes 1", "priest knows 1 knows 1", "priest takes 1 2", "priest takes -1", "told", "told 6 0 0",
      "told 0 8 0", "told 0 0 41", "told 0 0", "told 0 0;", "told 0 0 0 0", "told ;", "water", "water 10", "water x",
      "water 1 2", "out 256", "out", "out 1,", "out 1;out", "out 1;\t", "\tout 1", "out\u00a01", "out 1\n",
      "takes 1", "knows 1", "stuffed 1", "out 1; foo", "out 1; #", "out 1 #", "out 1 out 2", "waterout 1",
      "told 1 1 1; told 000 008 1", "out 1\u0000", "priestz", "apriest", "xut 1", "out 1; uut 1", "out 1;out 1`", "out 1;out {",
      "out 1/", "out 1:", "\u00ff", "out 1\u00bb out 2",
    };
    int[] faults = {
      0, 3, 0, 7, 8, 8, 7, 0, 0, 0,
      0, 0, 7, 12, 13, 13, 13,
      13, 13, 13, 13,
      13, 15, 19, 15,
      15, 15, 15, 13, 4, 5,
      7, 9, 8, 8, 11, 5, 5, 6, 6,
      8, 4, 3, 5, 9, 6, 0, 3, 5,
      0, 0, 0, 7, 7, 6, 6, 0,
      21, 5, 0, 0, 0, 7, 11, 10,
      5, 5, 0, 5,
    };
    due("as many faults as texts", faults.length, texts.length);
    for (int i = 0; i < texts.length; i++) {
      due("text() of '" + texts[i] + "'", read(x, texts[i]), -1 - faults[i]);
      due("count(5)", x.count(5), 0);
    }
    due("now(1): nothing changes", x.now(1), 77);
    due("count(1): nothing changes", x.count(1), 1);
    due("status(-1): no finding", x.status(-1), 0);
    x = new RicePriests();
    due("text() of nine", read(x, "saint;saint;saint;saint;saint;saint;saint;saint; hungry"), -1 - 49);
    due("count(1)", x.count(1), 0);
    due("text() of eight", read(x, "saint;saint;saint;saint;saint;saint;saint;saint"), 8);
    due("count(1)", x.count(1), 8);
    due("text() of a 9th, with a fault behind it", read(x, "saint takes 999"), -1);
    due("text() of other words of a 9th", read(x, "out 3;saints"), -1 - 6);
    StringBuilder full = new StringBuilder("out 200");
    while (full.length() < 120) {
      full.insert(0, ' ');
    }
    due("text() of 120 bytes", read(x, full.toString()), 1);
    due("now(1)", x.now(1), 200);
    due("text() of 120 bytes, cut", read(x, full + "; out 1"), 1);
  }

  private static void hold() {
    RicePriests x = told("priest; curate");
    due("hold(0, 1)", x.hold(0, 1), 1);
    due("hold(9, 0)", x.hold(9, 0), 1);
    due("count(7)", x.count(7), 2);
    due("hold(9, -1)", x.hold(9, -1), 1);
    due("hold(8, -1)", x.hold(8, -1), 1);
    due("count(7)", x.count(7), 1);
    due("hold(0, 2)", x.hold(0, 2), BEYOND);
    due("hold(0, -2)", x.hold(0, -2), BEYOND);
    due("hold(10, 0)", x.hold(10, 0), BEYOND);
    due("hold(-1, 0)", x.hold(-1, 0), BEYOND);
    due("as(0, 0)", x.as(0, 0), 1);
    due("as(9, 0)", x.as(9, 0), MISSING);
  }

  private static void as() {
    RicePriests x = new RicePriests();
    // Of each kind those that it may be held as.
    String[] upward = {"0", "01", "02", "013", "0134", "05", "026"};
    for (int kind = 0; kind < 7; kind++) {
      x.priest(kind, 255);
      x.hold(kind, kind);
      for (int as = 0; as < 7; as++) {
        boolean under = upward[kind].indexOf((char) ('0' + as)) >= 0;
        due("as(" + kind + ", " + as + ")", x.as(kind, as), under ? kind : KIND);
      }
    }
    due("as(7, 0)", x.as(7, 0), MISSING);
    due("as(7, 7)", x.as(7, 7), BEYOND);
    due("as(7, -1)", x.as(7, -1), BEYOND);
    due("as(10, 0)", x.as(10, 0), BEYOND);
    due("as(-1, 0)", x.as(-1, 0), BEYOND);
    x.change(0, 0, SAINT);
    due("as(0, 3) after change", x.as(0, 3), 0);
    x.dies(0);
    due("as(0, 3) after death", x.as(0, 3), 0);
  }

  private static void sheet() {
    RicePriests x = told("priest knows 0");
    due("sheet(0, 8, 40)", x.sheet(0, 8, 40), 40);
    due("sheet(3, 16, 0)", x.sheet(3, 16, 0), 0);
    due("sheet(1, 32, 1)", x.sheet(1, 32, 1), 1);
    due("sheet(4, 8, 1)", x.sheet(4, 8, 1), BEYOND);
    due("sheet(-1, 8, 1)", x.sheet(-1, 8, 1), BEYOND);
    due("sheet(0, 7, 1)", x.sheet(0, 7, 1), BEYOND);
    due("sheet(0, 64, -1)", x.sheet(0, 64, -1), BEYOND);
    due("sheet(4, 8, -1)", x.sheet(4, 8, -1), BEYOND);
    due("sheet(0, -8, 1)", x.sheet(0, -8, 1), BEYOND);
    due("sheet(0, 8, -1)", x.sheet(0, 8, -1), SIZE);
    due("sheet(0, 0, -1)", x.sheet(0, 0, -1), SIZE);
    due("sheet(0, 8, 41)", x.sheet(0, 8, 41), BEYOND);
    due("sheet(0, 0, 41)", x.sheet(0, 0, 41), BEYOND);
    due("write(0, 39, 7)", x.write(0, 39, 7), 1);
    due("sheet(0, 8, 40)", x.sheet(0, 8, 40), 40);
    x.sheet(2, 8, 40);
    for (int p = 1; p < 8; p++) {
      x.priest(0, 0);
    }
    due("judge(0): 8 that know nothing", x.judge(0), 1 + 8);
    x.write(0, 0, 5);
    x.sheet(0, 8, 3);
    due("judge(0): all 0 again", x.judge(0), 0);
    due("sheet(0, 0, 40)", x.sheet(0, 0, 40), 0);
    due("judge(0)", x.judge(0), MISSING);
    due("sheet(0, 0, 0)", x.sheet(0, 0, 0), 0);
    due("write(1, 1, 0)", x.write(1, 1, 0), BEYOND);
  }

  private static void write() {
    RicePriests x = told("priest");
    due("write(0, 0, 1)", x.write(0, 0, 1), MISSING);
    due("write(0, 99, 1)", x.write(0, 99, 1), MISSING);
    due("write(4, 0, 1)", x.write(4, 0, 1), BEYOND);
    due("write(-1, 0, 1)", x.write(-1, 0, 1), BEYOND);
    x.sheet(0, 8, 2);
    due("write(0, 2, 1)", x.write(0, 2, 1), BEYOND);
    due("write(0, -1, 1)", x.write(0, -1, 1), BEYOND);
    int[] bits = {8, 16, 32};
    // What is written, and what stands there then, told by what a priest knows.
    int[][] writes = {{127, 127}, {128, -1}, {255, -1}, {256, 0}, {0x1234567f, 0x7f}};
    for (int b : bits) {
      for (int[] pair : writes) {
        x.sheet(1, b, 2);
        due("write(1, 1, " + pair[0] + ")", x.write(1, 1, pair[0]), 1);
        if (b == 8 && pair[1] >= 0) {
          x.change(0, 3, 0);
          x.priest(0, 0);
          x.change(1, 3, pair[1]);
          due("judge(1) of " + pair[0], x.judge(1), 0);
        }
      }
    }
    x = told("priest knows 255");
    int[][] told = {{8, 255, 1}, {16, 255, 0}, {32, 255, 0}, {16, 65536 + 255, 0}, {32, 65536 + 255, 1},
        {16, 256 + 255, 1}};
    for (int[] row : told) {
      fill(x, 2, row[0], row[1]);
      due("judge(2) of " + row[1] + " in " + row[0] + " bits", x.judge(2), row[2]);
    }
    x = told("priest stuffed 7");
    for (int[] row : new int[][] {{8, 255}, {16, 65535}, {32, -1}, {8, -257 + 256}, {16, 0x7ffff}}) {
      fill(x, 2, row[0], row[1]);
      due("fits(2, 0): any, of " + row[1] + " in " + row[0] + " bits", x.fits(2, 0), 41);
    }
    for (int[] row : new int[][] {{16, 255}, {32, 65535}}) {
      fill(x, 2, row[0], row[1]);
      due("fits(2, 0): not any, of " + row[1] + " in " + row[0] + " bits", x.fits(2, 0), 0);
    }
  }

  private static void listIs(RicePriests x, int s, int... numbers) {
    for (int i = 0; i < 6; i++) {
      x.list(i, 0);
    }
    x.load(s);
    for (int i = 0; i < numbers.length; i++) {
      due("listed(" + i + ")", x.listed(i), numbers[i]);
    }
  }

  private static void copy() {
    RicePriests x = new RicePriests();
    due("copy(4, 0, 0, 0, 0)", x.copy(4, 0, 0, 0, 0), BEYOND);
    due("copy(0, 0, -1, 0, 0)", x.copy(0, 0, -1, 0, 0), BEYOND);
    due("copy(0, 0, 1, 0, 0)", x.copy(0, 0, 1, 0, 0), MISSING);
    fill(x, 0, 16, 1, 2, 3, 4, 5, 6);
    due("copy(0, 0, 1, 0, -1)", x.copy(0, 0, 1, 0, -1), MISSING);
    due("copy(1, 0, 0, 0, 1)", x.copy(1, 0, 0, 0, 1), MISSING);
    fill(x, 1, 32, 7, 8, 9);
    due("copy(0, 0, 1, 0, 1)", x.copy(0, 0, 1, 0, 1), KIND);
    due("copy(0, -1, 1, 0, 1)", x.copy(0, -1, 1, 0, 1), KIND);
    fill(x, 1, 16, 7, 8, 9);
    due("copy(0, 4, 1, 1, 2)", x.copy(0, 4, 1, 1, 2), 2);
    listIs(x, 1, 7, 5, 6, 0);
    due("copy(0, 4, 1, 0, 3)", x.copy(0, 4, 1, 0, 3), BEYOND);
    due("copy(0, 0, 1, 1, 3)", x.copy(0, 0, 1, 1, 3), BEYOND);
    due("copy(0, -1, 1, 0, 1)", x.copy(0, -1, 1, 0, 1), BEYOND);
    due("copy(0, 0, 1, -1, 1)", x.copy(0, 0, 1, -1, 1), BEYOND);
    due("copy(0, 0, 1, 0, -1)", x.copy(0, 0, 1, 0, -1), BEYOND);
    due("copy(0, MAX, 1, 0, MAX)", x.copy(0, Integer.MAX_VALUE, 1, 0, Integer.MAX_VALUE), BEYOND);
    due("copy(0, 1, 1, 0, MAX)", x.copy(0, 1, 1, 0, Integer.MAX_VALUE), BEYOND);
    due("copy(0, 0, 1, MAX, 1)", x.copy(0, 0, 1, Integer.MAX_VALUE, 1), BEYOND);
    due("copy(0, MIN, 1, 0, 0)", x.copy(0, Integer.MIN_VALUE, 1, 0, 0), BEYOND);
    due("copy(0, 6, 1, 3, 0)", x.copy(0, 6, 1, 3, 0), 0);
    due("copy(0, 7, 1, 3, 0)", x.copy(0, 7, 1, 3, 0), BEYOND);
    due("copy(0, 6, 1, 4, 0)", x.copy(0, 6, 1, 4, 0), BEYOND);
    listIs(x, 0, 1, 2, 3, 4, 5, 6);
    due("copy onto itself, up", x.copy(0, 0, 0, 2, 4), 4);
    listIs(x, 0, 1, 2, 1, 2, 3, 4);
    due("copy onto itself, down", x.copy(0, 2, 0, 0, 4), 4);
    listIs(x, 0, 1, 2, 3, 4, 3, 4);
    due("copy of all", x.copy(0, 0, 0, 0, 6), 6);
  }

  private static void load() {
    RicePriests x = new RicePriests();
    due("load(4)", x.load(4), BEYOND);
    due("load(-1)", x.load(-1), BEYOND);
    due("load(0)", x.load(0), MISSING);
    fill(x, 0, 16, 740, 1, 41, 2);
    due("load(0)", x.load(0), 2);
    due("listed(0)", x.listed(0), 740);
    due("listed(1)", x.listed(1), 1);
    due("listed(2)", x.listed(2), 0);
    due("listed(3)", x.listed(3), 0);
    fill(x, 0, 16, 101, 102, 103, 104, 105, 106, 107);
    due("load(0)", x.load(0), 6);
    due("listed(5)", x.listed(5), 106);
    due("listed(0)", x.listed(0), 101);
    fill(x, 0, 16, 800);
    due("load(0)", x.load(0), 0);
    fill(x, 0, 16, 0, -1, 5);
    due("load(0): 0 is a confession of no words", x.load(0), 1);
    due("listed(0)", x.listed(0), 0);
    due("listed(1)", x.listed(1), 102);
    x.sheet(0, 8, 0);
    due("load(0) of an empty sheet", x.load(0), 0);
    fill(x, 0, 8, 140, 3);
    due("load(0): 140 is below 0 in 8 bits", x.load(0), 0);
    due("listed(0)", x.listed(0), 0);
  }

  private static void judge() {
    RicePriests x = told("priest knows 3; priest knows 0; saint knows 200");
    due("judge(4)", x.judge(4), BEYOND);
    due("judge(-1)", x.judge(-1), BEYOND);
    due("judge(3)", x.judge(3), MISSING);
    x.sheet(0, 8, 0);
    due("judge(0) of an empty sheet", x.judge(0), 0);
    fill(x, 0, 16, 3, 0, 200);
    due("judge(0)", x.judge(0), 0);
    fill(x, 0, 16, 3, 0);
    due("judge(0), fewer", x.judge(0), 0);
    fill(x, 0, 16, 3, 0, 200, 0);
    due("judge(0), more", x.judge(0), 4);
    fill(x, 0, 16, 3, 1, 201);
    due("judge(0)", x.judge(0), 2);
    fill(x, 0, 16, 2, 0, 200);
    due("judge(0)", x.judge(0), 1);
    fill(x, 0, 8, 3, 0, 200);
    due("judge(0): 200 is -56 in 8 bits", x.judge(0), 3);
  }

  private static void imageAndUndo() {
    RicePriests x = told("priest takes 3 knows 1 stuffed 9; told 2 3 4; water 5; out 16");
    due("undo()", x.undo(), NONE);
    x.hold(4, 0);
    x.seed(99);
    x.go(3);
    feedAll(x, "out 1");
    x.sheet(0, 8, 1);
    due("image()", x.image(), 1);
    x.status(9);
    x.change(0, 2, 0);
    x.go(6);
    x.set(0, 1);
    x.set(1, 1);
    x.list(2, 0);
    x.list(3, 740);
    x.seed(5);
    x.hold(4, -1);
    x.hold(5, 0);
    x.priest(4, 1);
    x.hold(6, 1);
    for (int what = 0; what < 6; what++) {
      x.change(0, what, 4);
    }
    x.write(0, 0, 1);
    x.feed(';', 1);
    due("undo()", x.undo(), 3);
    due("count(5): the tape is not kept", x.count(5), 6);
    due("judge(0): sheets are not kept", x.judge(0), 0);
    int[] of = {0, 0, 3, 1, 0, 0};
    for (int what = 0; what < 6; what++) {
      due("of(0, " + what + ")", x.of(0, what), of[what]);
    }
    due("of(1, 0)", x.of(1, 0), BEYOND);
    int[] count = {3, 1, 1, 1, 0, 6, 99, 1};
    for (int what = 0; what < 8; what++) {
      due("count(" + what + ")", x.count(what), count[what]);
    }
    due("as(4, 0)", x.as(4, 0), 0);
    due("listed(2)", x.listed(2), 304);
    due("listed(3)", x.listed(3), 0);
    due("set(0, 5)", x.set(0, 5), 5);
    due("set(1, 16)", x.set(1, 16), 16);
    due("status(-1): none is taken back", x.status(-1), 3);
    x.go(2);
    due("undo() again: it stays", x.undo(), 3);
    x.go(2);
    due("image()", x.image(), 1);
    x.go(1);
    due("undo(): the latest", x.undo(), 5);
  }

  private static void tear() {
    RicePriests x = new RicePriests();
    due("tear()", x.tear(), 0);
    x.image();
    x.image();
    x.go(4);
    due("tear()", x.tear(), 1);
    due("tear()", x.tear(), 0);
    due("undo()", x.undo(), NONE);
    due("now(0)", x.now(0), 4);
    due("image()", x.image(), 1);
    due("undo()", x.undo(), 4);
  }

  private static void count() {
    RicePriests x = told("priest; saint takes 1; out 131; told 0 1 3; told 1 1 3");
    x.change(0, 2, 0);
    x.change(0, 5, 3);
    x.change(1, 5, 4);
    x.seed(-8);
    x.hold(0, 0);
    x.hold(1, 0);
    x.hold(9, 1);
    x.feed(0, 4);
    x.go(8);
    int[] want = {8, 2, 3, 4, 7, 4, -8, 3};
    for (int what = 0; what < 8; what++) {
      due("count(" + what + ")", x.count(what), want[what]);
    }
    due("count(8)", x.count(8), BEYOND);
    due("count(-1)", x.count(-1), BEYOND);
  }

  private static void status() {
    RicePriests x = new RicePriests();
    x.go(0);
    x.go(0);
    for (int p = 0; p < 8; p++) {
      x.priest(0, 0);
    }
    x.priest(0, 0);
    x.hold(0, 0);
    x.as(0, 1);
    x.as(0, 1);
    x.as(0, 1);
    x.goes(0);
    x.as(1, 0);
    x.as(1, 0);
    x.sheet(0, 8, -1);
    x.text();
    x.seed(-1000003);
    x.seed(-1000003);
    int[] want = {10, 2, 1, 3, 1, 0, 2, 1};
    for (int which = -1; which < 7; which++) {
      due("status(" + which + ")", x.status(which), want[which + 1]);
    }
    due("status(7)", x.status(7), BEYOND);
    due("status(0): counted from then on", x.status(0), 3);
    due("status(-2)", x.status(-2), BEYOND);
    due("status(-1)", x.status(-1), 12);
    due("status(MAX)", x.status(Integer.MAX_VALUE), BEYOND);
    x.image();
    x.undo();
    due("status(-1)", x.status(-1), 13);
  }

  private static void all() {
    promise = 1; newObject();
    promise = 2; set();
    promise = 3; list();
    promise = 4; listed();
    promise = 5; priest();
    promise = 6; of();
    promise = 7; change();
    promise = 8; swells();
    promise = 9; goes();
    promise = 10; dies();
    promise = 11; go(); theLastDay();
    promise = 12; now();
    promise = 13; ahead();
    promise = 14; ill();
    promise = 15; out();
    promise = 16; wise();
    promise = 17; when();
    promise = 18; wordsFor();
    promise = 19; waterFor();
    promise = 20; spare();
    promise = 21; kindFor();
    promise = 22; fast();
    promise = 23; cover();
    promise = 24; fits();
    promise = 25; words();
    promise = 26; kinds();
    promise = 27; come();
    promise = 28; odds();
    promise = 29; seed();
    promise = 30; feed();
    promise = 31; wipe();
    promise = 32; text();
    promise = 33; hold();
    promise = 34; as();
    promise = 35; sheet();
    promise = 36; write();
    promise = 37; copy();
    promise = 38; load();
    promise = 39; judge();
    promise = 41; imageAndUndo();
    promise = 42; tear();
    promise = 43; count();
    promise = 44; status();
  }

  public static void main(String[] args) {
    all();
    System.out.println(wrong == 0 ? asked + " answers are as due" : wrong + " of " + asked + " answers are not as due");
    if (wrong != 0) {
      System.exit(1);
    }
  }
}
