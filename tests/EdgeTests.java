import java.io.IOException;
import java.lang.reflect.InvocationTargetException;
import java.lang.reflect.Method;
import java.lang.reflect.Modifier;
import java.nio.file.Path;
import java.util.Arrays;
import java.util.Comparator;
import java.util.List;

/**
 * Each sentence of the document that names a bound, with a test of its own: a method under tests/edges that quotes the
 * sentence and the section that it stands in. A promise or a term that no test quotes fails, too.
 */
public final class EdgeTests {

  private static final List<Class<? extends Edge>> GROUPS = List.of(
      TermsEdges.class, MissionEdges.class, DaysEdges.class, ConfessEdges.class, TextEdges.class, SheetEdges.class,
      ImageEdges.class, RefusedEdges.class);

  private static int tests = 0;

  private static boolean isTest(Method method) {
    int modifiers = method.getModifiers();
    return Modifier.isStatic(modifiers) && !Modifier.isPrivate(modifiers) && method.getParameterCount() == 0
        && method.getReturnType() == void.class;
  }

  private static void run(Method test) throws IllegalAccessException {
    tests++;
    int quotes = Edge.quotesSoFar();
    int asked = Edge.asked;
    try {
      test.invoke(null);
    } catch (InvocationTargetException thrown) {
      Edge.fail(test.getName() + " ended by " + thrown.getCause());
    }
    if (Edge.quotesSoFar() == quotes || Edge.asked == asked) {
      Edge.fail(test + " quotes no sentence or asks nothing");
    }
  }

  public static void main(String[] args) throws IOException, IllegalAccessException {
    Edge.open(Path.of("../shared/DOC.md"));
    for (Class<? extends Edge> group : GROUPS) {
      Method[] methods = group.getDeclaredMethods();
      Arrays.sort(methods, Comparator.comparing(Method::getName));
      for (Method method : methods) {
        if (isTest(method)) {
          run(method);
        }
      }
    }
    Edge.lookForUnquoted();
    System.out.println(Edge.wrong == 0
        ? tests + " tests of edges: " + Edge.asked + " answers are as due"
        : Edge.wrong + " of " + Edge.asked + " answers are not as due");
    if (Edge.wrong != 0) {
      System.exit(1);
    }
  }
}
