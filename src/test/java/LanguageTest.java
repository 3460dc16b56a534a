import com.sun.source.tree.*;
import com.sun.source.util.*;
import java.nio.file.*;
import java.util.*;
import java.util.regex.*;
import javax.lang.model.element.*;
import javax.tools.*;

/** Reads Wishsolver.java as javac does and looks whether it keeps to LANGUAGE.md and to the document's face. */
public final class LanguageTest {
  private static final Path SOURCE = Path.of("src/main/java/Wishsolver.java");
  private static final Path DOC = Path.of("../shared/DOC.md");
  private static final Set<String> IMPORTS = Set.of("java.util.Arrays", "java.util.NoSuchElementException");
  private static final Set<String> LIBRARY = Set.of("Integer.bitCount", "Long.bitCount", "Math.abs", "Math.max", "System.arraycopy",
    "Arrays.fill", "StringBuilder.append", "StringBuilder.length", "StringBuilder.setLength", "AbstractStringBuilder.length",
    "AbstractStringBuilder.setLength", "StringBuilder.toString", "Object.<init>", "StringBuilder.<init>", "CharSequence.length");
  private static final Set<String> THROWN = Set.of("IllegalStateException", "IllegalArgumentException", "IndexOutOfBoundsException",
    "NoSuchElementException");
  private static int wrong;
  private static CompilationUnitTree unit;
  private static Trees trees;
  private static SourcePositions positions;
  private static final Map<Element, Set<Element>> calls = new HashMap<>();
  private static final Set<String> privateNames = new TreeSet<>();
  private static final Set<String> publicNames = new TreeSet<>();
  private static int classes;

  private static void fault(String text) {
    wrong++;
    System.out.println("LANGUAGE: " + text);
  }

  private static long line(Tree tree) {
    return unit.getLineMap().getLineNumber(positions.getStartPosition(unit, tree));
  }

  public static void main(String[] args) throws Exception {
    JavaCompiler compiler = ToolProvider.getSystemJavaCompiler();
    StandardJavaFileManager files = compiler.getStandardFileManager(null, null, null);
    JavacTask task = (JavacTask) compiler.getTask(null, files, null, List.of("-proc:none"), null, files.getJavaFileObjects(SOURCE));
    unit = task.parse().iterator().next();
    task.analyze();
    trees = Trees.instance(task);
    positions = trees.getSourcePositions();
    for (ImportTree i : unit.getImports()) {
      if (!IMPORTS.contains(i.getQualifiedIdentifier().toString())) fault("import " + i);
    }
    new Reader().scan(unit, null);
    if (classes > 12) fault(classes + " classes");
    for (String name : privateNames) if (publicNames.contains(name)) fault("a private method is named " + name);
    Map<Element, Integer> depths = new HashMap<>();
    int deepest = 0;
    for (Element e : calls.keySet()) deepest = Math.max(deepest, depth(e, depths, new ArrayDeque<>()));
    if (deepest > 8) fault("calls go " + deepest + " deep");
    face();
    for (char c : Files.readString(SOURCE).toCharArray()) if (c > 126) fault("a sign that is not 1 to 126");
    System.out.println("LanguageTest: " + classes + " classes, calls " + deepest + " deep, " + publicNames.size() + " public methods");
    if (wrong != 0) System.exit(1);
  }

  private static int depth(Element e, Map<Element, Integer> depths, Deque<Element> open) {
    if (depths.containsKey(e)) return depths.get(e);
    if (open.contains(e)) {
      fault("recursion through " + e);
      return 0;
    }
    open.push(e);
    int deepest = 0;
    for (Element c : calls.getOrDefault(e, Set.of())) deepest = Math.max(deepest, depth(c, depths, open));
    open.pop();
    depths.put(e, deepest + 1);
    return deepest + 1;
  }

  /** The methods that the document tells, each with its exceptions, are just the public ones. */
  private static void face() throws Exception {
    Set<String> due = new TreeSet<>();
    Matcher m = Pattern.compile("^    public (\\w+) (\\w+)\\((.*?)\\)( throws (.*?))?;$", Pattern.MULTILINE).matcher(Files.readString(DOC));
    while (m.find()) {
      List<String> types = new ArrayList<>();
      for (String p : m.group(3).split(", ")) if (!p.isEmpty()) types.add(p.split(" ")[0]);
      List<String> thrown = new ArrayList<>();
      if (m.group(5) != null) for (String t : m.group(5).split(", ")) thrown.add(t.replace("java.util.", ""));
      due.add(m.group(1) + " " + m.group(2) + types + thrown);
    }
    Set<String> got = new TreeSet<>();
    for (java.lang.reflect.Method method : Wishsolver.class.getDeclaredMethods()) {
      if (!java.lang.reflect.Modifier.isPublic(method.getModifiers())) {
        if (!java.lang.reflect.Modifier.isPrivate(method.getModifiers()) && !method.isSynthetic()) fault("not private: " + method);
        continue;
      }
      List<String> types = new ArrayList<>();
      for (Class<?> t : method.getParameterTypes()) types.add(t.getSimpleName());
      List<String> thrown = new ArrayList<>();
      for (Class<?> t : method.getExceptionTypes()) thrown.add(t.getSimpleName());
      got.add(method.getReturnType().getSimpleName() + " " + method.getName() + types + thrown);
    }
    if (due.isEmpty() || !due.equals(got)) fault("the face is " + got + ", due is " + due);
    if (Wishsolver.class.getConstructors().length != 1 || Wishsolver.class.getFields().length != 0) fault("constructors or fields");
    for (java.lang.reflect.Field f : Wishsolver.class.getDeclaredFields()) {
      if (!java.lang.reflect.Modifier.isPrivate(f.getModifiers())) fault("not private: " + f);
    }
  }

  private static final class Reader extends TreePathScanner<Void, Void> {
    private Element method;
    private int loops;

    private void no(Tree tree, String what) {
      fault(what + " in line " + line(tree));
    }

    @Override public Void visitClass(ClassTree tree, Void p) {
      classes++;
      int fields = 0;
      for (Tree member : tree.getMembers()) {
        if (!(member instanceof VariableTree)) continue;
        Set<Modifier> flags = ((VariableTree) member).getModifiers().getFlags();
        if (!flags.contains(Modifier.STATIC)) fields++;
        else if (!flags.contains(Modifier.FINAL)) no(member, "a static field that is not final");
      }
      if (fields > 20) no(tree, fields + " fields");
      if (getCurrentPath().getParentPath().getLeaf() instanceof ClassTree
          && !tree.getModifiers().getFlags().containsAll(Set.of(Modifier.PRIVATE, Modifier.STATIC))) no(tree, "a class that is not private static");
      return super.visitClass(tree, p);
    }

    @Override public Void visitMethod(MethodTree tree, Void p) {
      Element before = method;
      method = trees.getElement(getCurrentPath());
      calls.putIfAbsent(method, new LinkedHashSet<>());
      long end = unit.getLineMap().getLineNumber(positions.getEndPosition(unit, tree));
      if (end - line(tree) > 60) no(tree, "a method of more than 60 lines");
      if (tree.getParameters().size() > 7) no(tree, "more than 7 parameters");
      String name = tree.getName().toString();
      if (!name.equals("<init>")) {
        boolean isPublic = tree.getModifiers().getFlags().contains(Modifier.PUBLIC);
        (isPublic ? publicNames : privateNames).add(name);
      }
      super.visitMethod(tree, p);
      method = before;
      return null;
    }

    @Override public Void visitMethodInvocation(MethodInvocationTree tree, Void p) {
      Element called = trees.getElement(getCurrentPath());
      note(tree, called);
      return super.visitMethodInvocation(tree, p);
    }

    @Override public Void visitNewClass(NewClassTree tree, Void p) {
      Element called = trees.getElement(getCurrentPath());
      boolean isThrown = getCurrentPath().getParentPath().getLeaf() instanceof ThrowTree;
      if (isThrown) {
        if (!THROWN.contains(called.getEnclosingElement().getSimpleName().toString())) no(tree, "throws " + called);
        if (method.getKind() == ElementKind.CONSTRUCTOR) no(tree, "a throw in a constructor");
      } else {
        if (loops > 0 && method.getKind() != ElementKind.CONSTRUCTOR) no(tree, "an object made in a loop");
        note(tree, called);
      }
      return super.visitNewClass(tree, p);
    }

    @Override public Void visitNewArray(NewArrayTree tree, Void p) {
      if (method != null && method.getKind() != ElementKind.CONSTRUCTOR) no(tree, "an array made outside a constructor");
      return super.visitNewArray(tree, p);
    }

    private void note(Tree tree, Element called) {
      String owner = called.getEnclosingElement().toString();
      if (owner.startsWith("Wishsolver")) {
        if (method != null) calls.computeIfAbsent(method, k -> new LinkedHashSet<>()).add(called);
      } else {
        String name = called.getEnclosingElement().getSimpleName() + "." + called.getSimpleName();
        if (!LIBRARY.contains(name)) no(tree, "the library's " + name);
      }
    }

    private Void loop(Runnable body) {
      loops++;
      body.run();
      loops--;
      return null;
    }

    @Override public Void visitForLoop(ForLoopTree tree, Void p) {
      if (tree.getCondition() == null || tree.getUpdate().isEmpty()) no(tree, "a loop without an end");
      return loop(() -> super.visitForLoop(tree, p));
    }

    @Override public Void visitEnhancedForLoop(EnhancedForLoopTree tree, Void p) {
      return loop(() -> super.visitEnhancedForLoop(tree, p));
    }

    @Override public Void visitWhileLoop(WhileLoopTree tree, Void p) {
      no(tree, "a while loop, whose end cannot be seen");
      return null;
    }

    @Override public Void visitDoWhileLoop(DoWhileLoopTree tree, Void p) {
      no(tree, "a do loop, whose end cannot be seen");
      return null;
    }

    @Override public Void visitBinary(BinaryTree tree, Void p) {
      if (tree.getKind() == Tree.Kind.PLUS) {
        if (trees.getTypeMirror(getCurrentPath()).toString().equals("java.lang.String")) no(tree, "texts joined by +");
      }
      if (tree.getKind() == Tree.Kind.DIVIDE || tree.getKind() == Tree.Kind.REMAINDER) {
        String by = tree.getRightOperand().toString();
        if (!Set.of("base", "others", "n").contains(by)) no(tree, "a divisor that was not looked at: " + by);
      }
      return super.visitBinary(tree, p);
    }

    @Override public Void visitLambdaExpression(LambdaExpressionTree tree, Void p) {
      no(tree, "a lambda");
      return null;
    }

    @Override public Void visitMemberReference(MemberReferenceTree tree, Void p) {
      no(tree, "a method reference");
      return null;
    }

    @Override public Void visitTry(TryTree tree, Void p) {
      no(tree, "a try");
      return null;
    }

    @Override public Void visitAssert(AssertTree tree, Void p) {
      no(tree, "an assert");
      return null;
    }

    @Override public Void visitSynchronized(SynchronizedTree tree, Void p) {
      no(tree, "synchronized");
      return null;
    }

    @Override public Void visitTypeCast(TypeCastTree tree, Void p) {
      no(tree, "a cast");
      return null;
    }
  }
}
