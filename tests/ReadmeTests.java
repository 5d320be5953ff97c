import java.io.IOException;
import java.lang.reflect.Method;
import java.lang.reflect.Modifier;
import java.nio.file.Files;
import java.nio.file.Path;
import java.util.ArrayList;
import java.util.Arrays;
import java.util.HashMap;
import java.util.List;
import java.util.Map;
import java.util.Set;
import java.util.TreeSet;
import java.util.regex.Matcher;
import java.util.regex.Pattern;

/** README.md fits what stands: its calls answer as it says, its tables name all findings and all calls. */
public final class ReadmeTests {

  private static final Pattern EXAMPLES = Pattern.compile("(?ms)^```java\n(.*?)^```$");
  private static final Pattern CALL = Pattern.compile("mission\\.(\\w+)\\((.*?)\\); +// (-?\\d+): .*");
  private static final Pattern FINDING = Pattern.compile("(?m)^\\| ([A-Z]+) \\| (-\\d+) \\|");
  private static final Pattern TEST = Pattern.compile("(?m)^- `tests/(\\w+\\.java)`");
  private static final String BEGIN = "RicePriests mission = new RicePriests();";

  private static int answers = 0;
  private static int wrong = 0;

  private static void fail(String what) {
    wrong++;
    System.out.println("README.md: " + what);
  }

  private static Map<String, Method> face() {
    Map<String, Method> face = new HashMap<>();
    for (Method method : RicePriests.class.getDeclaredMethods()) {
      if (Modifier.isPublic(method.getModifiers())) {
        face.put(method.getName(), method);
      }
    }
    return face;
  }

  private static Object[] numbers(String arguments) {
    List<Object> numbers = new ArrayList<>();
    for (String argument : arguments.isEmpty() ? new String[0] : arguments.split(", ")) {
      numbers.add(Integer.decode(argument));
    }
    return numbers.toArray();
  }

  /** The examples go on with the object of the ones before. */
  private static void examples(String readme) throws ReflectiveOperationException {
    RicePriests mission = null;
    Matcher example = EXAMPLES.matcher(readme);
    while (example.find()) {
      for (String line : example.group(1).split("\n")) {
        Matcher call = CALL.matcher(line);
        if (line.equals(BEGIN)) {
          mission = new RicePriests();
        } else if (mission == null || !call.matches()) {
          fail("neither a call with its answer nor a new object: " + line);
        } else {
          answers++;
          Object got = face().get(call.group(1)).invoke(mission, numbers(call.group(2)));
          if (((Number) got).longValue() != Long.parseLong(call.group(3))) {
            fail("the answer is " + got + ": " + line);
          }
        }
      }
    }
    if (answers == 0) {
      fail("there is no call with its answer");
    }
  }

  private static void findings(String readme) throws ReflectiveOperationException {
    Set<String> names = new TreeSet<>();
    Matcher finding = FINDING.matcher(readme);
    while (finding.find()) {
      names.add(finding.group(1));
      int number = Edge.class.getDeclaredField(finding.group(1)).getInt(null);
      if (number != Integer.parseInt(finding.group(2))) {
        fail(finding.group(1) + " is " + number);
      }
    }
    if (!names.equals(Set.of("BEYOND", "FULL", "KIND", "NONE", "STATE", "MISSING", "SIZE"))) {
      fail("the table of findings has " + names);
    }
  }

  private static void calls(String readme) {
    Set<String> missing = new TreeSet<>();
    for (String name : face().keySet()) {
      if (!readme.contains("`" + name + "`")) {
        missing.add(name);
      }
    }
    if (!missing.isEmpty()) {
      fail("no table names " + missing);
    }
  }

  private static void tests(String readme) {
    Set<String> told = new TreeSet<>();
    Matcher test = TEST.matcher(readme);
    while (test.find()) {
      told.add(test.group(1));
    }
    String[] files = Path.of("tests").toFile().list((folder, name) -> name.endsWith(".java"));
    if (files == null || !told.equals(new TreeSet<>(Arrays.asList(files)))) {
      fail("the tests are " + Arrays.toString(files) + ", not " + told);
    }
  }

  public static void main(String[] args) throws IOException, ReflectiveOperationException {
    String readme = Files.readString(Path.of("README.md"));
    examples(readme);
    findings(readme);
    calls(readme);
    tests(readme);
    System.out.println(wrong == 0 ? "README.md: " + answers + " answers are as due" : wrong + " faults");
    if (wrong != 0) {
      System.exit(1);
    }
  }
}
