import com.sun.source.tree.ArrayAccessTree;
import com.sun.source.tree.AssertTree;
import com.sun.source.tree.AssignmentTree;
import com.sun.source.tree.BinaryTree;
import com.sun.source.tree.BlockTree;
import com.sun.source.tree.ClassTree;
import com.sun.source.tree.CompilationUnitTree;
import com.sun.source.tree.CompoundAssignmentTree;
import com.sun.source.tree.DoWhileLoopTree;
import com.sun.source.tree.EnhancedForLoopTree;
import com.sun.source.tree.ExpressionTree;
import com.sun.source.tree.ForLoopTree;
import com.sun.source.tree.ImportTree;
import com.sun.source.tree.LambdaExpressionTree;
import com.sun.source.tree.MemberReferenceTree;
import com.sun.source.tree.MethodInvocationTree;
import com.sun.source.tree.MethodTree;
import com.sun.source.tree.NewArrayTree;
import com.sun.source.tree.NewClassTree;
import com.sun.source.tree.ParenthesizedTree;
import com.sun.source.tree.SynchronizedTree;
import com.sun.source.tree.ThrowTree;
import com.sun.source.tree.Tree;
import com.sun.source.tree.TryTree;
import com.sun.source.tree.TypeCastTree;
import com.sun.source.tree.UnaryTree;
import com.sun.source.tree.VariableTree;
import com.sun.source.tree.WhileLoopTree;
import com.sun.source.util.JavacTask;
import com.sun.source.util.TreePath;
import com.sun.source.util.TreePathScanner;
import com.sun.source.util.Trees;
import java.io.IOException;
import java.net.URI;
import java.nio.file.Files;
import java.nio.file.Path;
import java.util.ArrayDeque;
import java.util.ArrayList;
import java.util.Deque;
import java.util.HashMap;
import java.util.LinkedHashMap;
import java.util.LinkedHashSet;
import java.util.List;
import java.util.Map;
import java.util.Set;
import java.util.TreeSet;
import java.util.regex.Matcher;
import java.util.regex.Pattern;
import javax.lang.model.element.Element;
import javax.lang.model.element.ElementKind;
import javax.lang.model.element.ExecutableElement;
import javax.lang.model.element.Modifier;
import javax.lang.model.type.TypeKind;
import javax.lang.model.type.TypeMirror;
import javax.tools.JavaCompiler;
import javax.tools.JavaFileObject;
import javax.tools.SimpleJavaFileObject;
import javax.tools.ToolProvider;

/**
 * The rules of ../shared/LANGUAGE.md, looked up in the tree that javac makes of the class. Where the class does without
 * something that a rule allows (lists, generics, recursion), it is refused here: whoever needs it widens the rule.
 */
public final class LanguageTests {

  private static final String SOURCE = "src/main/java/RicePriests.java";
  private static final Path DOCUMENT = Path.of("../shared/DOC.md");
  private static final Set<String> FACE = new TreeSet<>(List.of((
      "RicePriests(); int set(int, int); int list(int, int); int listed(int); int priest(int, int); int of(int, int); "
      + "int change(int, int, int); int swells(int, int); int goes(int); int dies(int); int go(int); int now(int); "
      + "int ahead(int, int, int); int ill(int); int out(int); int wise(int, int); int when(int, int); "
      + "int wordsFor(int, int); int waterFor(int); int spare(int, int); int kindFor(int, int); int fast(int); "
      + "int cover(int); int fits(int, int); int words(int, int); int kinds(int, int); int come(int); "
      + "long odds(int, int, int); int seed(int); int feed(int, int); int wipe(); int text(); int hold(int, int); "
      + "int as(int, int); int sheet(int, int, int); int write(int, int, int); int copy(int, int, int, int, int); "
      + "int load(int); int judge(int); int image(); int undo(); int tear(); int count(int); int status(int)"
      ).split("; ")));

  /** Each way to break a rule, and the rule: it shows that the look-ups below see what they are to see. */
  private static final String[][] BROKEN = {
    {"1", "int unseen() { return 0; }"},
    {"1", "public int more() { return 0; }"},
    {"1", "protected int more;"},
    {"1", "private int of(int a) { return a; }"},
    {"2", "private class Inner { }"},
    {"2", "private void f() { class Local { } }"},
    {"2", "private Runnable f() { return () -> { }; }"},
    {"2", "private Runnable f() { return this::f; }"},
    {"2", "private Object f() { return new Object() { }; }"},
    {"3", "private Object thing = null;"},
    {"3", "private int[][][] deep = null;"},
    {"3", "private java.util.HashMap<String, String> map = null;"},
    {"4", "private int f(String s) { return s.hashCode(); }"},
    {"4", "private int f(int a) { return Math.addExact(a, 1); }"},
    {"4", "private void f() { System.out.println(); }"},
    {"5", "private static int shared = 0;"},
    {"5", "static { }"},
    {"5", "private static final int[] ROW = {1}; private void f() { ROW[0] = 2; }"},
    {"5", "private static final int[] ROW = new int[3];"},
    {"6", "private void f() { throw new IllegalStateException(); }"},
    {"6", "private void f() { try { f(); } finally { } }"},
    {"6", "private void f(int a) { assert a > 0; }"},
    {"6", "private void f() { synchronized (this) { } }"},
    {"6", "private boolean f(String a, String b) { return a == b; }"},
    {"6", "private String f(Object a) { return (String) a; }"},
    {"8", "private void f() { f(); }"},
    {"8", "private void f() { g(); } private void g() { f(); }"},
    {"9", "private void f() { while (true) { } }"},
    {"9", "private void f() { for (;;) { } }"},
    {"9", "private void f(int a) { while (a != 3) { a++; } }"},
    {"9", "private void f(int a, boolean b) { do { a++; } while (a < 3 || b); }"},
    {"10", "private String f(int a) { return \"a\" + a; }"},
    {"10", "private String f(String s) { s += 'a'; return s; }"},
    {"11", "private void f(int a, int b, int c, int d, int e, int f, int g, int h) { }"},
    {"11", "private void f() { " + "\n".repeat(70) + " }"},
    {"11", "private int a, b, c, d, e, f, g, h, i, j, k, l, m, n, o, p, q, r, s, t, u;"},
    {"11", chain(9)},
    {"12", "private int[] f() { return new int[3]; }"},
    {"12", "private static class A { } private A f() { return new A(); }"},
  };

  private static int wrong = 0;

  /** Methods that call one another in a row: so many of them stand open at once. */
  private static String chain(int deep) {
    StringBuilder code = new StringBuilder("private int c0() { return c1(); } ");
    for (int i = 1; i < deep; i++) {
      code.append("private int c").append(i).append("() { return ").append(i < deep - 1 ? "c" + (i + 1) + "()" : "0")
          .append("; } ");
    }
    return code.toString();
  }

  private static void fail(String what) {
    wrong++;
    System.out.println(what);
  }

  /** The document's lines of the face, each as "int set(int, int)". */
  private static Set<String> faceOfDocument() throws IOException {
    String text = Files.readString(DOCUMENT);
    int begin = Math.max(text.indexOf("public final class RicePriests {"), 0);
    int end = Math.max(text.indexOf("\n}", begin), begin);
    Set<String> members = new TreeSet<>();
    Matcher line = Pattern.compile("(?m)^ {4}public (.*);$").matcher(text.substring(begin, end));
    while (line.find()) {
      members.add(line.group(1).replaceAll("\\b(int|long) \\w+(?=[,)])", "$1"));
    }
    return members;
  }

  private static void documentHasThisFace() throws IOException {
    if (!Files.exists(DOCUMENT)) {
      System.out.println("no " + DOCUMENT + ": the face is not looked up in it");
    } else if (!faceOfDocument().equals(FACE)) {
      fail("the document has another face: " + faceOfDocument());
    }
  }

  private static List<String> faultsOf(String code) throws IOException {
    JavaCompiler compiler = ToolProvider.getSystemJavaCompiler();
    JavaFileObject file = new SimpleJavaFileObject(URI.create("string:///RicePriests.java"), JavaFileObject.Kind.SOURCE) {
      @Override
      public CharSequence getCharContent(boolean ignoreErrors) {
        return code;
      }
    };
    List<String> faults = new ArrayList<>();
    JavacTask task = (JavacTask) compiler.getTask(null, null, said -> { }, List.of("-proc:none"), null, List.of(file));
    Iterable<? extends CompilationUnitTree> units = task.parse();
    task.analyze();
    for (CompilationUnitTree unit : units) {
      Rules rules = new Rules(Trees.instance(task), unit);
      rules.scan(new TreePath(unit), null);
      rules.lookAtWhole();
      faults.addAll(rules.faults);
    }
    return faults;
  }

  /** The class itself has no fault, so what is seen is in the words that are put at its end. */
  private static void lookUpsSeeWhatIsBroken(String code) throws IOException {
    String open = code.substring(0, code.lastIndexOf('}'));
    for (String[] broken : BROKEN) {
      List<String> faults = faultsOf(open + broken[1] + "\n}\n");
      if (faults.stream().noneMatch(fault -> fault.startsWith("rule " + broken[0] + ":"))) {
        fail("no look-up of rule " + broken[0] + " sees what is wrong in: " + broken[1].strip());
      }
    }
  }

  public static void main(String[] args) throws IOException {
    documentHasThisFace();
    String code = Files.readString(Path.of(SOURCE));
    for (String fault : faultsOf(code)) {
      fail(fault);
    }
    if (!code.chars().allMatch(sign -> sign == '\n' || sign >= ' ' && sign < 127)) {
      fail("rule 4: a sign that isn't plain");
    }
    if (wrong == 0) {
      lookUpsSeeWhatIsBroken(code);
    }
    System.out.println(wrong == 0 ? "the class keeps to its face and language" : wrong + " faults");
    if (wrong != 0) {
      System.exit(1);
    }
  }

  /** One walk over the class; each fault bears the number of its rule. */
  private static final class Rules extends TreePathScanner<Void, Void> {

    private static final Set<String> NUMBERS = Set.of("int", "long", "short", "byte", "char", "boolean");
    private static final Set<String> CONSTANTS =
        Set.of("int", "long", "boolean", "char", "java.lang.String", "int[]", "long[]", "char[]", "byte[]");
    private static final Set<String> LIBRARY = Set.of(
        "java.lang.String.length", "java.lang.String.charAt", "java.lang.String.isEmpty", "java.lang.System.arraycopy",
        "java.lang.Math.min", "java.lang.Math.max", "java.lang.Math.abs", "java.lang.Math.floorDiv",
        "java.lang.Math.floorMod", "java.lang.Integer.bitCount", "java.lang.Long.bitCount");

    private final List<String> faults = new ArrayList<>();
    private final Trees trees;
    private final CompilationUnitTree unit;
    private final Set<String> faceNames = new TreeSet<>();
    private final Set<String> found = new TreeSet<>();
    private final Map<Element, Set<Element>> calls = new LinkedHashMap<>();
    private int classes = 0;

    Rules(Trees trees, CompilationUnitTree unit) {
      this.trees = trees;
      this.unit = unit;
      for (String member : FACE) {
        faceNames.add(member.replaceAll("\\(.*", "").replaceAll(".* ", ""));
      }
    }

    private void must(int rule, boolean so, String what, Tree where) {
      if (!so) {
        long place = trees.getSourcePositions().getStartPosition(unit, where);
        faults.add("rule " + rule + ": " + what + " (line " + unit.getLineMap().getLineNumber(Math.max(place, 0)) + ")");
      }
    }

    private Element here() {
      return trees.getElement(getCurrentPath());
    }

    private String typeOf(Tree tree) {
      TypeMirror type = trees.getTypeMirror(new TreePath(getCurrentPath(), tree));
      return type == null ? "" : type.toString();
    }

    private boolean isOwn(Element element) {
      return element != null && element.toString().matches("RicePriests(\\.\\w+)?");
    }

    private static boolean isStatic(Element element) {
      return element.getModifiers().contains(Modifier.STATIC);
    }

    /** The method that a tree stands in, or null if that is a field. */
    private Element method() {
      for (TreePath path = getCurrentPath(); path != null; path = path.getParentPath()) {
        if (path.getLeaf() instanceof MethodTree) {
          return trees.getElement(path);
        }
      }
      return null;
    }

    private long linesOf(Tree tree) {
      long begin = trees.getSourcePositions().getStartPosition(unit, tree);
      long end = trees.getSourcePositions().getEndPosition(unit, tree);
      return unit.getLineMap().getLineNumber(Math.max(end, 0)) - unit.getLineMap().getLineNumber(Math.max(begin, 0)) + 1;
    }

    /** What only the whole class shows: the face and how deep calls go. */
    void lookAtWhole() {
      must(1, found.equals(FACE), "the face is as told: " + found, unit);
      must(11, classes <= 12, "at most twelve classes", unit);
      Map<Element, Integer> depths = new HashMap<>();
      Deque<Element> open = new ArrayDeque<>();
      for (Element method : calls.keySet()) {
        int depth = depthOf(method, depths, open);
        must(11, depth <= 8, "calls go at most eight deep: " + method + " " + depth, unit);
      }
    }

    private int depthOf(Element method, Map<Element, Integer> depths, Deque<Element> open) {
      if (open.contains(method)) {
        must(8, false, "no recursion: " + method, unit);
        return 0;
      }
      if (!depths.containsKey(method)) {
        open.push(method);
        int below = 0;
        for (Element called : calls.getOrDefault(method, Set.of())) {
          below = Math.max(below, depthOf(called, depths, open));
        }
        open.pop();
        depths.put(method, below + 1);
      }
      return depths.get(method);
    }

    @Override
    public Void visitImport(ImportTree tree, Void unused) {
      must(4, false, "no import is needed: " + tree, tree);
      return null;
    }

    @Override
    public Void visitClass(ClassTree tree, Void unused) {
      classes++;
      Element element = here();
      boolean outer = getCurrentPath().getParentPath().getLeaf() instanceof CompilationUnitTree;
      Set<Modifier> modifiers = element.getModifiers();
      if (outer) {
        must(1, modifiers.equals(Set.of(Modifier.PUBLIC, Modifier.FINAL)), "the class is public and final", tree);
      } else {
        must(1, !modifiers.contains(Modifier.PUBLIC) && !modifiers.contains(Modifier.PROTECTED), "a class inside", tree);
        must(2, modifiers.contains(Modifier.STATIC) && element.getKind() == ElementKind.CLASS
            && isOwn(element), "classes inside are static and have a name: " + element, tree);
      }
      must(2, tree.getExtendsClause() == null && tree.getImplementsClause().isEmpty(), "a class alone", tree);
      must(3, tree.getTypeParameters().isEmpty(), "no generics are needed", tree);
      int fields = 0;
      for (Tree member : tree.getMembers()) {
        Element told = trees.getElement(new TreePath(getCurrentPath(), member));
        fields += member instanceof VariableTree && !isStatic(told) ? 1 : 0;
        must(5, !(member instanceof BlockTree), "no block at a class's begin", member);
        if (outer && !(member instanceof ClassTree) && !(member instanceof BlockTree)) {
          lookAtMember(member, told);
        }
      }
      must(11, fields <= 20, "at most twenty fields", tree);
      return super.visitClass(tree, unused);
    }

    private void lookAtMember(Tree member, Element told) {
      String text = told.toString().replace(",", ", ");
      boolean isPrivate = told.getModifiers().contains(Modifier.PRIVATE);
      if (member instanceof MethodTree && told.getModifiers().equals(Set.of(Modifier.PUBLIC))) {
        Tree type = ((MethodTree) member).getReturnType();
        found.add((type == null ? "" : type + " ") + text);
      } else {
        must(1, isPrivate, "no other member is seen from outside: " + text, member);
      }
    }

    @Override
    public Void visitMethod(MethodTree tree, Void unused) {
      Element element = here();
      String name = tree.getName().toString();
      boolean isPublic = element.getModifiers().contains(Modifier.PUBLIC);
      calls.computeIfAbsent(element, e -> new LinkedHashSet<>());
      must(1, isPublic || !faceNames.contains(name), "a name of its own: " + name, tree);
      must(6, tree.getThrows().isEmpty(), "nothing is thrown: " + name, tree);
      must(6, !Set.of("equals", "hashCode", "toString", "finalize").contains(name), "no such method: " + name, tree);
      must(11, tree.getParameters().size() <= 7, "at most seven parameters: " + name, tree);
      must(11, linesOf(tree) <= 60, "at most sixty lines: " + name, tree);
      return super.visitMethod(tree, unused);
    }

    @Override
    public Void visitVariable(VariableTree tree, Void unused) {
      Element element = here();
      TypeMirror type = element.asType();
      must(3, isKnown(type), "a type that the rules know: " + tree, tree);
      if (element.getKind() == ElementKind.FIELD && isStatic(element)) {
        ExpressionTree value = tree.getInitializer();
        must(5, element.getModifiers().contains(Modifier.FINAL) && CONSTANTS.contains(type.toString()),
            "static fields are constants: " + tree, tree);
        must(5, type.getKind() != TypeKind.ARRAY || value instanceof NewArrayTree
            && ((NewArrayTree) value).getDimensions().isEmpty(), "a constant row is written out: " + tree, tree);
      }
      return super.visitVariable(tree, unused);
    }

    private static boolean isKnown(TypeMirror type) {
      String one = type.toString().replaceFirst("\\[\\]$", "");
      String number = one.replaceFirst("\\[\\]$", "");
      return NUMBERS.contains(number) || one.equals("java.lang.String") || one.matches("RicePriests(\\.\\w+)?");
    }

    @Override
    public Void visitMethodInvocation(MethodInvocationTree tree, Void unused) {
      Element called = here();
      Element owner = called == null ? null : called.getEnclosingElement();
      String name = owner + "." + (called == null ? tree : called.getSimpleName());
      boolean isOwn = isOwn(owner);
      must(4, isOwn || LIBRARY.contains(name) || name.endsWith(".<init>"), "what the library gives: " + name, tree);
      if (called instanceof ExecutableElement && method() != null) {
        calls.computeIfAbsent(method(), e -> new LinkedHashSet<>()).add(called);
      }
      return super.visitMethodInvocation(tree, unused);
    }

    @Override
    public Void visitNewClass(NewClassTree tree, Void unused) {
      Element made = here();
      must(12, isOwn(made == null ? null : made.getEnclosingElement()), "of its own classes alone: " + tree, tree);
      lookWhereMade(tree);
      return super.visitNewClass(tree, unused);
    }

    @Override
    public Void visitNewArray(NewArrayTree tree, Void unused) {
      must(12, tree.getDimensions().size() <= 2, "rows of at most two dimensions: " + tree, tree);
      lookWhereMade(tree);
      return super.visitNewArray(tree, unused);
    }

    /** All is made with the object, so a run of calls makes nothing more, however long it is. */
    private void lookWhereMade(Tree tree) {
      Element method = method();
      must(12, method == null || method.getKind() == ElementKind.CONSTRUCTOR, "made by a call: " + tree, tree);
    }

    @Override
    public Void visitAssignment(AssignmentTree tree, Void unused) {
      lookAtTarget(tree.getVariable());
      return super.visitAssignment(tree, unused);
    }

    @Override
    public Void visitCompoundAssignment(CompoundAssignmentTree tree, Void unused) {
      lookAtTarget(tree.getVariable());
      must(10, !typeOf(tree.getVariable()).equals("java.lang.String"), "texts are not joined by +=: " + tree, tree);
      return super.visitCompoundAssignment(tree, unused);
    }

    @Override
    public Void visitUnary(UnaryTree tree, Void unused) {
      if (tree.getKind().toString().endsWith("CREMENT")) {
        lookAtTarget(tree.getExpression());
      }
      return super.visitUnary(tree, unused);
    }

    private void lookAtTarget(ExpressionTree target) {
      if (target instanceof ArrayAccessTree) {
        ExpressionTree row = ((ArrayAccessTree) target).getExpression();
        Element element = trees.getElement(new TreePath(getCurrentPath(), row));
        must(5, element == null || element.getKind() != ElementKind.FIELD || !isStatic(element),
            "a constant row is never changed: " + target, target);
      }
    }

    @Override
    public Void visitBinary(BinaryTree tree, Void unused) {
      boolean text = typeOf(tree.getLeftOperand()).matches("java\\.lang\\.(String|Integer)")
          || typeOf(tree.getRightOperand()).matches("java\\.lang\\.(String|Integer)");
      boolean compares = tree.getKind() == Tree.Kind.EQUAL_TO || tree.getKind() == Tree.Kind.NOT_EQUAL_TO;
      must(6, !text || !compares, "texts are not compared so: " + tree, tree);
      must(10, !text || tree.getKind() != Tree.Kind.PLUS, "texts are not joined by +: " + tree, tree);
      return super.visitBinary(tree, unused);
    }

    @Override
    public Void visitTypeCast(TypeCastTree tree, Void unused) {
      must(6, NUMBERS.contains(typeOf(tree.getType())), "casts of numbers alone: " + tree, tree);
      return super.visitTypeCast(tree, unused);
    }

    /** A counter against a bound must hold in every round. */
    private static boolean hasBound(ExpressionTree condition) {
      if (condition instanceof ParenthesizedTree) {
        return hasBound(((ParenthesizedTree) condition).getExpression());
      }
      if (!(condition instanceof BinaryTree)) {
        return false;
      }
      BinaryTree binary = (BinaryTree) condition;
      switch (binary.getKind()) {
        case CONDITIONAL_AND: return hasBound(binary.getLeftOperand()) || hasBound(binary.getRightOperand());
        case LESS_THAN:
        case LESS_THAN_EQUAL:
        case GREATER_THAN:
        case GREATER_THAN_EQUAL: return true;
        default: return false;
      }
    }

    @Override
    public Void visitForLoop(ForLoopTree tree, Void unused) {
      must(9, hasBound(tree.getCondition()), "an end that can be seen: for", tree);
      return super.visitForLoop(tree, unused);
    }

    @Override
    public Void visitWhileLoop(WhileLoopTree tree, Void unused) {
      must(9, hasBound(tree.getCondition()), "an end that can be seen: while", tree);
      return super.visitWhileLoop(tree, unused);
    }

    @Override
    public Void visitDoWhileLoop(DoWhileLoopTree tree, Void unused) {
      must(9, hasBound(tree.getCondition()), "an end that can be seen: do", tree);
      return super.visitDoWhileLoop(tree, unused);
    }

    @Override
    public Void visitEnhancedForLoop(EnhancedForLoopTree tree, Void unused) {
      must(9, typeOf(tree.getExpression()).endsWith("[]"), "over a row alone: for", tree);
      return super.visitEnhancedForLoop(tree, unused);
    }

    @Override
    public Void visitLambdaExpression(LambdaExpressionTree tree, Void unused) {
      must(2, false, "no lambda: " + tree, tree);
      return super.visitLambdaExpression(tree, unused);
    }

    @Override
    public Void visitMemberReference(MemberReferenceTree tree, Void unused) {
      must(2, false, "no method reference: " + tree, tree);
      return super.visitMemberReference(tree, unused);
    }

    @Override
    public Void visitThrow(ThrowTree tree, Void unused) {
      must(6, false, "no throw: " + tree, tree);
      return super.visitThrow(tree, unused);
    }

    @Override
    public Void visitTry(TryTree tree, Void unused) {
      must(6, false, "no try", tree);
      return super.visitTry(tree, unused);
    }

    @Override
    public Void visitAssert(AssertTree tree, Void unused) {
      must(6, false, "no assert: " + tree, tree);
      return super.visitAssert(tree, unused);
    }

    @Override
    public Void visitSynchronized(SynchronizedTree tree, Void unused) {
      must(6, false, "no synchronized", tree);
      return super.visitSynchronized(tree, unused);
    }
  }
}
