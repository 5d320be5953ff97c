import java.lang.reflect.InvocationTargetException;
import java.lang.reflect.Method;
import java.nio.charset.StandardCharsets;
import java.util.ArrayList;
import java.util.HashMap;
import java.util.List;
import java.util.Map;

/** An object on trial, called by words such as "set 0 9"; it keeps to the 512 calls that the document promises. */
final class Run {

  private static final int CALLS = 512;
  private static final Map<String, Method> FACE = face();

  private final RicePriests x = new RicePriests();
  private final List<String> calls = new ArrayList<>();
  private final boolean endless;

  Run() {
    this(false);
  }

  private Run(boolean endless) {
    this.endless = endless;
  }

  private static Map<String, Method> face() {
    Map<String, Method> face = new HashMap<>();
    for (Method method : RicePriests.class.getMethods()) {
      face.put(method.getName(), method);
    }
    return face;
  }

  /** An object that these calls were made on; none of them may answer a finding. */
  static Run of(String... calls) {
    return new Run().then(calls);
  }

  /** An object that read these texts. */
  static Run told(String... texts) {
    Run run = new Run();
    for (String text : texts) {
      run.reads(text);
    }
    return run;
  }

  /** What it answers behind its 512th call is free, so only what no shorter run can show is asked of it. */
  static Run endless() {
    return new Run(true);
  }

  long ask(String call) {
    if (!endless && calls.size() == CALLS) {
      throw new IllegalStateException("the test makes more than 512 calls: " + call);
    }
    calls.add(call);
    String[] words = call.split(" ");
    Object[] arguments = new Object[words.length - 1];
    for (int i = 0; i < arguments.length; i++) {
      arguments[i] = number(words[i + 1]);
    }
    try {
      return ((Number) FACE.get(words[0]).invoke(x, arguments)).longValue();
    } catch (InvocationTargetException thrown) {
      Edge.fail(call + " threw " + thrown.getCause());
      return Long.MIN_VALUE;
    } catch (IllegalAccessException | IllegalArgumentException unfit) {
      throw new IllegalStateException("no such call: " + call, unfit);
    }
  }

  private static int number(String word) {
    switch (word) {
      case "MIN": return Integer.MIN_VALUE;
      case "MAX": return Integer.MAX_VALUE;
      default: return Integer.parseInt(word);
    }
  }

  Run due(String call, long want) {
    long got = ask(call);
    Edge.due(call, got, want);
    return this;
  }

  /** The calls one behind the other, each with the same answer due. */
  Run all(long want, String... several) {
    for (String call : several) {
      due(call, want);
    }
    return this;
  }

  /** Calls that only make things ready. */
  Run then(String... several) {
    for (String call : several) {
      long answer = ask(call);
      if (answer < -1000000) {
        throw new IllegalStateException("the test's own call is refused: " + call);
      }
    }
    return this;
  }

  Run feeds(String text) {
    byte[] bytes = text.getBytes(StandardCharsets.ISO_8859_1);
    for (int i = 0; i < bytes.length; i += 4) {
      int n = Math.min(4, bytes.length - i);
      int number = 0;
      for (int j = 0; j < n; j++) {
        number = number << 8 | bytes[i + j] & 255;
      }
      then("feed " + number + " " + n);
    }
    return this;
  }

  Run reads(String text) {
    feeds(text);
    if (ask("text") < 1) {
      throw new IllegalStateException("the test's own text is wrong: " + text);
    }
    return this;
  }

  /** What text() is due to answer when the tape holds these bytes. */
  Run reads(String text, long want) {
    feeds(text);
    Edge.due("text of '" + text + "'", ask("text"), want);
    return this;
  }

  Run sheet(int s, int bits, int... numbers) {
    then("sheet " + s + " " + bits + " " + numbers.length);
    for (int i = 0; i < numbers.length; i++) {
      then("write " + s + " " + i + " " + numbers[i]);
    }
    return this;
  }

  /** Another object that the same calls were made on. */
  Run twin() {
    Run twin = new Run(endless);
    for (String call : calls) {
      twin.ask(call);
    }
    return twin;
  }

  /** All that can be told of it, call by call; it is used up by that. */
  List<String> looks() {
    List<String> seen = new ArrayList<>();
    lookAtMission(seen);
    see(seen, "text");
    lookAtMission(seen);
    for (int s = 0; s < 4; s++) {
      lookAtSheet(seen, s);
    }
    see(seen, "undo");
    lookAtMission(seen);
    see(seen, "tear");
    return seen;
  }

  private void see(List<String> seen, String call) {
    seen.add(call + " = " + ask(call));
  }

  private void lookAtMission(List<String> seen) {
    for (int what = 0; what < 8; what++) {
      see(seen, "count " + what);
    }
    see(seen, "now 1");
    for (int i = 0; i < 6; i++) {
      see(seen, "listed " + i);
    }
    long priests = ask("count 1");
    for (int p = 0; p < priests; p++) {
      for (int what = 0; what < 6; what++) {
        see(seen, "of " + p + " " + what);
      }
    }
    for (int spot = 0; spot < 10; spot++) {
      see(seen, "as " + spot + " 0");
    }
    see(seen, "set 0 0");
    then("set 0 " + seen.get(seen.size() - 1).replaceAll(".* = ", ""));
  }

  /** Numbers are seen by the list, six at a time; bits by what is left of a number that is too long. */
  private void lookAtSheet(List<String> seen, int s) {
    int size = 0;
    while (size < 40 && ask("copy " + s + " " + size + " " + s + " 0 1") == 1) {
      see(seen, "load " + s);
      see(seen, "listed 0");
      size++;
    }
    seen.add("size of " + s + " = " + size);
    see(seen, "write " + s + " 0 " + (65536 + 512 + 5));
    see(seen, "load " + s);
    see(seen, "listed 0");
  }
}
