import com.sun.source.tree.BlockTree;
import com.sun.source.tree.ClassTree;
import com.sun.source.tree.CompilationUnitTree;
import com.sun.source.tree.MethodInvocationTree;
import com.sun.source.tree.MethodTree;
import com.sun.source.tree.NewClassTree;
import com.sun.source.tree.Tree;
import com.sun.source.util.JavacTask;
import com.sun.source.util.TreePath;
import com.sun.source.util.TreePathScanner;
import com.sun.source.util.Trees;
import java.io.IOException;
import java.nio.file.Path;
import java.util.ArrayList;
import java.util.LinkedHashMap;
import java.util.LinkedHashSet;
import java.util.List;
import java.util.Map;
import java.util.Set;
import javax.lang.model.element.Element;
import javax.lang.model.element.ElementKind;
import javax.lang.model.element.ExecutableElement;
import javax.lang.model.element.TypeElement;
import javax.tools.JavaCompiler;
import javax.tools.StandardJavaFileManager;
import javax.tools.ToolProvider;

/** The text of MobileCall as the compiler reads it: its trees, and which method calls which. */
final class Source {
  static final Path FILE = Path.of("src/main/java/MobileCall.java");

  final CompilationUnitTree unit;
  private final JavacTask task;
  private final Trees trees;
  private final Map<Tree, TreePath> paths = new LinkedHashMap<>();
  private final Map<ExecutableElement, Set<ExecutableElement>> calls = new LinkedHashMap<>();

  private Source(JavacTask task, CompilationUnitTree unit) {
    this.task = task;
    this.unit = unit;
    trees = Trees.instance(task);
  }

  static Source read() throws IOException {
    JavaCompiler compiler = ToolProvider.getSystemJavaCompiler();
    try (StandardJavaFileManager files = compiler.getStandardFileManager(null, null, null)) {
      JavacTask task = (JavacTask) compiler.getTask(null, files, null, List.of("-proc:none"), null,
          files.getJavaFileObjects(FILE));
      CompilationUnitTree unit = task.parse().iterator().next();
      task.analyze();
      Source source = new Source(task, unit);
      source.keepPaths();
      source.keepCalls();
      return source;
    }
  }

  /** All trees of a kind, or of a part of the kinds, in the order of the file. */
  <T extends Tree> List<T> all(Class<T> kind) {
    List<T> found = new ArrayList<>();
    for (Tree tree : paths.keySet()) {
      if (kind.isInstance(tree)) {
        found.add(kind.cast(tree));
      }
    }
    return found;
  }

  Set<Tree.Kind> kinds() {
    Set<Tree.Kind> kinds = new LinkedHashSet<>();
    paths.keySet().forEach(tree -> kinds.add(tree.getKind()));
    return kinds;
  }

  Element element(Tree tree) {
    return trees.getElement(paths.get(tree));
  }

  Tree parent(Tree tree) {
    return paths.get(tree).getParentPath().getLeaf();
  }

  /** The nearest tree of a kind around another, or null. */
  <T extends Tree> T around(Tree tree, Class<T> kind) {
    for (TreePath path = paths.get(tree).getParentPath(); path != null; path = path.getParentPath()) {
      if (kind.isInstance(path.getLeaf())) {
        return kind.cast(path.getLeaf());
      }
    }
    return null;
  }

  String place(Tree tree) {
    return "line " + unit.getLineMap().getLineNumber(trees.getSourcePositions().getStartPosition(unit, tree));
  }

  long lines(Tree tree) {
    long from = trees.getSourcePositions().getStartPosition(unit, tree);
    long to = trees.getSourcePositions().getEndPosition(unit, tree);
    return unit.getLineMap().getLineNumber(to) - unit.getLineMap().getLineNumber(from) + 1;
  }

  /** What the compiler writes itself, such as a constructor that is not in the file, has no lines of its own. */
  boolean isWritten(Tree tree) {
    return trees.getSourcePositions().getEndPosition(unit, tree) >= 0;
  }

  /** The most calls that stand open at once below and with a method; -1 when some of them is recursion. */
  int depth(ExecutableElement method) {
    return depth(method, new LinkedHashSet<>());
  }

  private int depth(ExecutableElement method, Set<ExecutableElement> open) {
    if (!open.add(method)) {
      return -1;
    }
    int deepest = 0;
    for (ExecutableElement next : calls.getOrDefault(method, Set.of())) {
      int depth = depth(next, open);
      if (depth < 0) {
        return -1;
      }
      deepest = Math.max(deepest, depth);
    }
    open.remove(method);
    return deepest + 1;
  }

  private void keepPaths() {
    new TreePathScanner<Void, Void>() {
      @Override
      public Void scan(Tree tree, Void nothing) {
        if (tree != null && getCurrentPath() != null) {
          paths.put(tree, new TreePath(getCurrentPath(), tree));
        }
        return super.scan(tree, nothing);
      }
    }.scan(new TreePath(unit), null);
  }

  private void keepCalls() {
    for (MethodInvocationTree call : all(MethodInvocationTree.class)) {
      keepCall(call, element(call));
    }
    for (NewClassTree made : all(NewClassTree.class)) {
      keepCall(made, element(made));
    }
  }

  /** A call of a method that another one overrides may be a call of that one. */
  private void keepCall(Tree from, Element to) {
    MethodTree caller = around(from, MethodTree.class);
    if (caller == null) {
      return;
    }
    Set<ExecutableElement> known =
        calls.computeIfAbsent((ExecutableElement) element(caller), k -> new LinkedHashSet<>());
    known.add((ExecutableElement) to);
    for (MethodTree other : all(MethodTree.class)) {
      ExecutableElement method = (ExecutableElement) element(other);
      if (method.getKind() == ElementKind.METHOD && to.getKind() == ElementKind.METHOD && task.getElements()
          .overrides(method, (ExecutableElement) to, (TypeElement) method.getEnclosingElement())) {
        known.add(method);
      }
    }
  }

  /** The classes of the file, the outer one first. */
  List<ClassTree> classes() {
    return all(ClassTree.class);
  }

  /** Blocks that stand in a class itself: initialisers. */
  List<BlockTree> initialisers() {
    List<BlockTree> found = new ArrayList<>();
    for (BlockTree block : all(BlockTree.class)) {
      if (parent(block) instanceof ClassTree) {
        found.add(block);
      }
    }
    return found;
  }
}
