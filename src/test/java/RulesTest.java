import com.sun.source.tree.ClassTree;
import com.sun.source.tree.CompilationUnitTree;
import com.sun.source.tree.ImportTree;
import com.sun.source.tree.LineMap;
import com.sun.source.tree.MethodInvocationTree;
import com.sun.source.tree.MethodTree;
import com.sun.source.tree.NewClassTree;
import com.sun.source.tree.Tree;
import com.sun.source.tree.VariableTree;
import com.sun.source.util.JavacTask;
import com.sun.source.util.TreePathScanner;
import com.sun.source.util.Trees;
import java.io.File;
import java.io.IOException;
import java.util.HashMap;
import java.util.HashSet;
import java.util.List;
import java.util.Map;
import java.util.Set;
import java.util.TreeMap;
import javax.lang.model.element.Element;
import javax.lang.model.element.ExecutableElement;
import javax.lang.model.element.Modifier;
import javax.tools.JavaCompiler;
import javax.tools.StandardJavaFileManager;
import javax.tools.ToolProvider;

/** What of LANGUAGE.md a tree of the source shows: its forms, its sizes, and how deep calls go. */
public final class RulesTest {
  private static final Set<String> FACE = Set.of("feed", "out", "tell", "roots", "times", "root",
      "signAt", "below", "points", "point", "signAtPoint", "decide", "solve", "piece", "edge",
      "factors", "factor", "power", "hold", "reckon", "least", "number", "compare");
  private static final Set<String> LIBRARY = Set.of("Arrays.copyOf", "Arrays.fill",
      "System.arraycopy", "Math.max", "Math.min", "Math.abs", "Math.floorDiv", "Integer.bitCount",
      "Integer.compare");
  private static final Set<Tree.Kind> BANNED = Set.of(Tree.Kind.THROW, Tree.Kind.TRY,
      Tree.Kind.CATCH, Tree.Kind.SYNCHRONIZED, Tree.Kind.ASSERT, Tree.Kind.LAMBDA_EXPRESSION,
      Tree.Kind.MEMBER_REFERENCE, Tree.Kind.STRING_LITERAL, Tree.Kind.DOUBLE_LITERAL,
      Tree.Kind.FLOAT_LITERAL, Tree.Kind.TYPE_CAST);

  private static final Map<Element, Set<Element>> CALLS = new HashMap<>();
  private static final Map<Element, Integer> DEPTH = new HashMap<>();

  public static void main(String[] args) throws IOException {
    JavaCompiler compiler = ToolProvider.getSystemJavaCompiler();
    StandardJavaFileManager files = compiler.getStandardFileManager(null, null, null);
    JavacTask task = (JavacTask) compiler.getTask(null, files, null, List.of("-proc:none"), null,
        files.getJavaFileObjects(new File("src/main/java/RealHouse.java")));
    for (CompilationUnitTree unit : task.parse()) {
      task.analyze();
      new Scan(unit, Trees.instance(task)).scan(unit, null);
    }
    for (Element method : Set.copyOf(CALLS.keySet())) {
      int deep = depth(method, new HashSet<>());
      House.due("calls deep from " + method.getEnclosingElement() + "." + method, 1,
          deep <= 8 ? 1 : deep);
    }
    House.end();
  }

  private static int depth(Element method, Set<Element> open) {
    Integer known = DEPTH.get(method);
    if (known != null) {
      return known;
    }
    House.due(method + " calls itself", 1, open.add(method) ? 1 : 0);
    int deepest = 0;
    for (Element called : CALLS.getOrDefault(method, Set.of())) {
      deepest = Math.max(deepest, open.contains(called) ? 99 : depth(called, open));
    }
    open.remove(method);
    DEPTH.put(method, deepest + 1);
    return deepest + 1;
  }

  private static final class Scan extends TreePathScanner<Void, Void> {
    private final CompilationUnitTree unit;
    private final Trees trees;
    private final Map<String, Integer> fields = new TreeMap<>();
    private Element method;
    private int classes;

    Scan(CompilationUnitTree unit, Trees trees) {
      this.unit = unit;
      this.trees = trees;
    }

    private long lines(Tree tree) {
      LineMap map = unit.getLineMap();
      long from = trees.getSourcePositions().getStartPosition(unit, tree);
      long to = trees.getSourcePositions().getEndPosition(unit, tree);
      return map.getLineNumber(to) - map.getLineNumber(from) + 1;
    }

    @Override
    public Void scan(Tree tree, Void v) {
      if (tree != null && BANNED.contains(tree.getKind())) {
        boolean fine = tree.getKind() == Tree.Kind.TYPE_CAST && tree.toString().startsWith("(int)");
        House.due("a form outside the rules: " + tree, 1, fine ? 1 : 0);
      }
      return super.scan(tree, v);
    }

    @Override
    public Void visitImport(ImportTree tree, Void v) {
      House.due("import of " + tree, 1,
          tree.getQualifiedIdentifier().toString().equals("java.util.Arrays") ? 1 : 0);
      return super.visitImport(tree, v);
    }

    @Override
    public Void visitClass(ClassTree tree, Void v) {
      classes++;
      House.due("classes", 1, classes <= 12 ? 1 : classes);
      Set<Modifier> flags = tree.getModifiers().getFlags();
      boolean outer = tree.getSimpleName().contentEquals("RealHouse");
      House.due(tree.getSimpleName() + " is " + flags, 1,
          flags.contains(outer ? Modifier.PUBLIC : Modifier.STATIC) ? 1 : 0);
      House.due(tree.getSimpleName() + " is " + flags, 1, flags.contains(Modifier.FINAL) ? 1 : 0);
      int own = 0;
      for (Tree member : tree.getMembers()) {
        if (member instanceof VariableTree field) {
          own += checkField(tree, field, outer);
        }
      }
      House.due("fields of " + tree.getSimpleName(), 1, own <= 22 ? 1 : own);
      return super.visitClass(tree, v);
    }

    private static int checkField(ClassTree tree, VariableTree field, boolean outer) {
      Set<Modifier> flags = field.getModifiers().getFlags();
      String name = tree.getSimpleName() + "." + field.getName();
      House.due(name + " is private", 1, !outer || flags.contains(Modifier.PRIVATE) ? 1 : 0);
      if (!flags.contains(Modifier.STATIC)) {
        return 1;
      }
      House.due(name + " is final", 1, flags.contains(Modifier.FINAL) ? 1 : 0);
      return 0;
    }

    @Override
    public Void visitMethod(MethodTree tree, Void v) {
      Element before = method;
      method = trees.getElement(getCurrentPath());
      CALLS.putIfAbsent(method, new HashSet<>());
      String name = tree.getName().toString();
      boolean open = tree.getModifiers().getFlags().contains(Modifier.PUBLIC);
      House.due(name + " is public or bears no public one's name", 1,
          open == (FACE.contains(name) || isHouse(method) && name.equals("<init>")) ? 1 : 0);
      House.due("parameters of " + name, 1, tree.getParameters().size() <= 7 ? 1 : 0);
      House.due("lines of " + name, 1, lines(tree) <= 60 ? 1 : lines(tree));
      super.visitMethod(tree, v);
      method = before;
      return null;
    }

    private static boolean isHouse(Element method) {
      return method.getEnclosingElement().getSimpleName().contentEquals("RealHouse");
    }

    @Override
    public Void visitMethodInvocation(MethodInvocationTree tree, Void v) {
      call(trees.getElement(getCurrentPath()));
      return super.visitMethodInvocation(tree, v);
    }

    @Override
    public Void visitNewClass(NewClassTree tree, Void v) {
      call(trees.getElement(getCurrentPath()));
      return super.visitNewClass(tree, v);
    }

    private void call(Element called) {
      if (!(called instanceof ExecutableElement)) {
        return;
      }
      String owner = called.getEnclosingElement().toString();
      if (owner.startsWith("RealHouse")) {
        if (method != null) {
          CALLS.get(method).add(called);
        }
        return;
      }
      String name = called.getEnclosingElement().getSimpleName() + "." + called.getSimpleName();
      House.due("call of " + name, 1, LIBRARY.contains(name) || name.endsWith("<init>") ? 1 : 0);
    }
  }
}
