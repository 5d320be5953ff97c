import java.io.IOException;
import java.lang.reflect.Constructor;
import java.lang.reflect.Field;
import java.lang.reflect.Method;
import java.lang.reflect.Modifier;
import java.nio.file.Files;
import java.nio.file.Path;
import java.util.ArrayList;
import java.util.Arrays;
import java.util.HashSet;
import java.util.List;
import java.util.Set;
import java.util.TreeSet;
import java.util.regex.Matcher;
import java.util.regex.Pattern;

/** What of ../shared/LANGUAGE.md and of the document's face can be looked up in the class and in its source. */
public final class LanguageTests {

  private static final String FACE =
      "int set(int,int); int list(int,int); int listed(int); int priest(int,int); int of(int,int); "
      + "int change(int,int,int); int swells(int,int); int goes(int); int dies(int); int go(int); int now(int); "
      + "int ahead(int,int,int); int ill(int); int out(int); int wise(int,int); int when(int,int); "
      + "int wordsFor(int,int); int waterFor(int); int spare(int,int); int kindFor(int,int); int fast(int); "
      + "int cover(int); int fits(int,int); int words(int,int); int kinds(int,int); int come(int); "
      + "long odds(int,int,int); int seed(int); int feed(int,int); int wipe(); int text(); int hold(int,int); "
      + "int as(int,int); int sheet(int,int,int); int write(int,int,int); int copy(int,int,int,int,int); "
      + "int load(int); int judge(int); int image(); int undo(); int tear(); int count(int); int status(int)";

  private static final String[] BANNED = {
    "throw", "throws", "try", "catch", "finally", "synchronized", "assert", "import", "package", "var", "float", "double",
    "System.out", "System.currentTimeMillis", "System.nanoTime", "Thread", "Object", "goto", "native", "volatile",
    "transient", "protected",
  };
  private static final String[] BANNED_SIGNS = {"->", "::", "+ \"", "\" +", "\t", "Exact("};

  private static int wrong = 0;

  private static void must(boolean so, String what) {
    if (!so) {
      wrong++;
      System.out.println("not so: " + what);
    }
  }

  private static String told(Method m) {
    List<String> types = new ArrayList<>();
    for (Class<?> type : m.getParameterTypes()) {
      types.add(type.getSimpleName());
    }
    return m.getReturnType().getSimpleName() + " " + m.getName() + "(" + String.join(",", types) + ")";
  }

  private static Set<String> face() {
    Set<String> wanted = new TreeSet<>(Arrays.asList(FACE.split("; ")));
    Set<String> names = new HashSet<>();
    Set<String> found = new TreeSet<>();
    for (Method m : RicePriests.class.getDeclaredMethods()) {
      if (!Modifier.isPrivate(m.getModifiers())) {
        must(Modifier.isPublic(m.getModifiers()) && !Modifier.isStatic(m.getModifiers()), "public: " + told(m));
        found.add(told(m));
        names.add(m.getName());
      }
    }
    must(wanted.size() == 43, "the face has 43 methods");
    must(found.equals(wanted), "the face is as told: " + found);
    return names;
  }

  private static void outerClass() {
    int modifiers = RicePriests.class.getModifiers();
    must(Modifier.isPublic(modifiers) && Modifier.isFinal(modifiers), "the class is public and final");
    Constructor<?>[] constructors = RicePriests.class.getDeclaredConstructors();
    must(constructors.length == 1 && Modifier.isPublic(constructors[0].getModifiers())
        && constructors[0].getParameterCount() == 0, "one public constructor without arguments");
    for (Field f : RicePriests.class.getDeclaredFields()) {
      must(Modifier.isPrivate(f.getModifiers()), "private: " + f);
    }
  }

  private static void everyClass(Set<String> publicNames) {
    List<Class<?>> classes = new ArrayList<>();
    classes.add(RicePriests.class);
    classes.addAll(Arrays.asList(RicePriests.class.getDeclaredClasses()));
    must(classes.size() <= 12, "at most twelve classes");
    for (Class<?> c : classes) {
      must(c == RicePriests.class || Modifier.isStatic(c.getModifiers()), "static: " + c);
      must(c == RicePriests.class || c.getDeclaredClasses().length == 0, "no class inside: " + c);
      int own = 0;
      for (Field f : c.getDeclaredFields()) {
        if (Modifier.isStatic(f.getModifiers())) {
          must(Modifier.isFinal(f.getModifiers()), "final: " + f);
          must(Set.of("int", "long", "boolean", "char", "String", "int[]", "long[]", "char[]", "byte[]")
              .contains(f.getType().getSimpleName()), "a constant's type: " + f);
        } else {
          own++;
        }
      }
      must(own <= 20, "at most twenty fields: " + c);
      for (Method m : c.getDeclaredMethods()) {
        must(m.getParameterCount() <= 7, "at most seven parameters: " + m);
        must(!m.isSynthetic(), "nothing synthetic: " + m);
        must(Modifier.isPublic(m.getModifiers()) || !publicNames.contains(m.getName()), "a name of its own: " + m);
      }
    }
  }

  private static void source(String text) {
    String code = text.replaceAll("(?s)/\\*.*?\\*/", " ").replaceAll("//[^\n]*", " ");
    for (String sign : BANNED_SIGNS) {
      must(!code.contains(sign), "no '" + sign + "' in the source");
    }
    String bare = code.replaceAll("\"[^\"\n]*\"", "\"\"");
    for (String word : BANNED) {
      must(!Pattern.compile("(?<![A-Za-z])" + Pattern.quote(word) + "(?![A-Za-z])").matcher(bare).find(),
          "no '" + word + "' in the source");
    }
    must(text.chars().allMatch(c -> c == '\n' || c >= ' ' && c < 127), "plain signs only in the source");
    Matcher made = Pattern.compile("\\bnew ([A-Za-z]+)").matcher(bare);
    while (made.find()) {
      must(Set.of("Mission", "Priest", "Seer", "Sheet", "Tape", "Reader", "int", "byte").contains(made.group(1)),
          "only rows and classes of its own are made: " + made.group());
    }
  }

  /** Objects are made with the mission alone: a run of calls makes nothing more. */
  private static void nothingIsMadeByCalls(String text) {
    int depth = 0;
    String method = "";
    for (String line : text.split("\n")) {
      String bare = line.replaceAll("//.*|/\\*.*", "");
      if (bare.matches(" {2,4}(?!for |if |while |switch )[^ }].*\\) \\{")) {
        method = bare.trim();
      }
      boolean inConstructor = method.matches("(public )?(RicePriests|Mission|Reader|Seer)\\(.*");
      boolean isField = bare.matches(" {2,4}private .*= new .*;");
      must(!bare.contains("new ") || inConstructor || isField, "made in a constructor only: " + line.trim());
      depth += bare.chars().filter(c -> c == '{').count() - bare.chars().filter(c -> c == '}').count();
    }
    must(depth == 0, "the source was read to its end");
  }

  public static void main(String[] args) throws IOException {
    Set<String> names = face();
    outerClass();
    everyClass(names);
    String text = Files.readString(Path.of("src/main/java/RicePriests.java"));
    source(text);
    nothingIsMadeByCalls(text);
    System.out.println(wrong == 0 ? "the class keeps to its face and language" : wrong + " rules are broken");
    if (wrong != 0) {
      System.exit(1);
    }
  }
}
