import java.io.IOException;
import java.nio.file.Files;
import java.nio.file.Path;
import java.util.BitSet;
import java.util.LinkedHashMap;
import java.util.Map;

/** What the edge tests share: the sentence that is on trial, and the document that each sentence is quoted from. */
abstract class Edge {

  static final int BEYOND = -1000001;
  static final int FULL = -1000002;
  static final int KIND = -1000003;
  static final int NONE = -1000004;
  static final int STATE = -1000005;
  static final int MISSING = -1000006;
  static final int SIZE = -1000007;

  static final int PRIEST = 0;
  static final int CURATE = 1;
  static final int ENVIOUS = 2;
  static final int SWEET = 3;
  static final int SAINT = 4;
  static final int BISHOP = 5;
  static final int HUNGRY = 6;

  static int asked = 0;
  static int wrong = 0;

  /** Each section's words, and which of their signs have been quoted. */
  private static final Map<String, String> SECTIONS = new LinkedHashMap<>();
  private static final Map<String, BitSet> QUOTED = new LinkedHashMap<>();
  /** What the document says of the lines above its groups of calls names no bound. */
  private static final String HEADLINE = "Ahead of the calls [^-]* the interface says: (---- [^.]*\\.)?";
  private static String trial = "";
  private static int quotes = 0;

  static void promise(int number, String... sentences) {
    quote("Promise " + number, sentences);
  }

  static void terms(String... sentences) {
    quote("Terms", sentences);
  }

  static void quote(String section, String... sentences) {
    quotes++;
    trial = section + ": \"" + String.join("\" \"", sentences) + "\"";
    for (String sentence : sentences) {
      mark(section, sentence);
    }
  }

  static int quotesSoFar() {
    return quotes;
  }

  static void due(String call, Object got, Object want) {
    asked++;
    if (!got.equals(want)) {
      fail(call + " answered " + got + ", due is " + want);
    }
  }

  static void fail(String what) {
    wrong++;
    System.out.println(trial + ": " + what);
  }

  private static void mark(String section, String sentence) {
    if (SECTIONS.isEmpty()) {
      return;
    }
    String words = SECTIONS.getOrDefault(section, "");
    int at = words.indexOf(sentence);
    if (at < 0) {
      fail("the document has no such words there: " + sentence);
    }
    while (at >= 0) {
      QUOTED.get(section).set(at, at + sentence.length());
      at = words.indexOf(sentence, at + 1);
    }
  }

  /** Without the document all tests run, but nobody looks whether what they quote is in it. */
  static void open(Path document) throws IOException {
    if (!Files.exists(document)) {
      System.out.println("no " + document + ": quotes are not looked up");
      return;
    }
    for (String section : Files.readString(document).split("(?m)^## ")) {
      int end = section.indexOf('\n');
      String heading = section.substring(0, end);
      String name = heading.startsWith("Promise ") ? heading.substring(0, heading.indexOf(':')) : heading;
      SECTIONS.put(name, plain(section.substring(end)));
      QUOTED.put(name, new BitSet());
    }
  }

  /** The words without fences and without a promise's own head. */
  private static String plain(String body) {
    return body.replaceAll("(?m)^```.*$", " ").replaceAll("\\s+", " ").trim().replaceFirst("^`[^`]*`: ", "");
  }

  /** Whatever the terms and the promises say has a test that quotes it. */
  static void lookForUnquoted() {
    for (Map.Entry<String, String> section : SECTIONS.entrySet()) {
      String name = section.getKey();
      if (name.equals("Terms") || name.startsWith("Promise ")) {
        trial = name;
        StringBuilder left = new StringBuilder();
        for (int i = 0; i < section.getValue().length(); i++) {
          left.append(QUOTED.get(name).get(i) ? ' ' : section.getValue().charAt(i));
        }
        String words = left.toString().replaceAll(HEADLINE, " ").trim().replaceAll("\\s+", " ");
        if (!words.isEmpty()) {
          fail("no test quotes: " + words);
        }
      }
    }
  }
}
