import com.sun.source.tree.ClassTree;
import com.sun.source.tree.CompilationUnitTree;
import com.sun.source.tree.MethodInvocationTree;
import com.sun.source.tree.MethodTree;
import com.sun.source.tree.NewClassTree;
import com.sun.source.tree.Tree;
import com.sun.source.tree.VariableTree;
import com.sun.source.util.JavacTask;
import com.sun.source.util.TreePathScanner;
import com.sun.source.util.Trees;
import java.io.File;
import java.io.IOException;
import java.util.ArrayList;
import java.util.LinkedHashMap;
import java.util.LinkedHashSet;
import java.util.List;
import java.util.Map;
import java.util.Set;
import javax.lang.model.element.Element;
import javax.lang.model.element.ElementKind;
import javax.lang.model.element.Modifier;
import javax.tools.JavaCompiler;
import javax.tools.StandardJavaFileManager;
import javax.tools.ToolProvider;

/** Rules 1, 8, 11 of ../shared/LANGUAGE.md, by what the compiler makes of the class: how deep calls go, how much a class holds. */
public final class Depth {
  private static final int MOST_CALLS = 8, MOST_FIELDS = 20, MOST_PARAMETERS = 7;

  private final Map<Element, Set<Element>> calls = new LinkedHashMap<>();
  private final List<String> breaches = new ArrayList<>();

  public static void main(String[] args) throws IOException {
    Depth depth = new Depth();
    depth.read();
    int most = 0;
    for (Element method : List.copyOf(depth.calls.keySet())) most = Math.max(most, depth.of(method, new ArrayList<>()));
    if (depth.calls.size() < 100) depth.breaches.add("only " + depth.calls.size() + " methods seen");
    for (String breach : depth.breaches) System.out.println(breach);
    System.out.println("calls go " + most + " deep");
    if (most > MOST_CALLS || !depth.breaches.isEmpty()) System.exit(1);
  }

  private void read() throws IOException {
    JavaCompiler compiler = ToolProvider.getSystemJavaCompiler();
    try (StandardJavaFileManager files = compiler.getStandardFileManager(null, null, null)) {
      JavacTask task = (JavacTask) compiler.getTask(null, files, null, List.of("-proc:none"), null, files.getJavaFileObjects(new File("src/main/java/SidingLoops.java")));
      Iterable<? extends CompilationUnitTree> units = task.parse();
      task.analyze();
      Trees trees = Trees.instance(task);
      for (CompilationUnitTree unit : units) new Reader(trees).scan(unit, null);
    }
  }

  /** How many calls stand open at once from a method on, itself among them. */
  private int of(Element method, List<Element> open) {
    if (open.contains(method)) {
      breaches.add("calls itself: " + method);
      return 0;
    }
    open.add(method);
    int most = 0;
    for (Element called : calls.getOrDefault(method, Set.of())) if (calls.containsKey(called)) most = Math.max(most, of(called, open));
    open.remove(open.size() - 1);
    return most + 1;
  }

  private final class Reader extends TreePathScanner<Void, Void> {
    private final Trees trees;
    private Element method;

    Reader(Trees trees) { this.trees = trees; }

    @Override public Void visitClass(ClassTree tree, Void nothing) {
      Element type = trees.getElement(getCurrentPath());
      boolean inner = type.getEnclosingElement().getKind() != ElementKind.PACKAGE;
      if (inner && !type.getModifiers().contains(Modifier.STATIC)) breaches.add("not static: " + type);
      int fields = 0;
      for (Tree member : tree.getMembers()) {
        if (member instanceof VariableTree) fields += field((VariableTree) member);
      }
      if (fields > MOST_FIELDS) breaches.add(type + " has " + fields + " fields");
      return super.visitClass(tree, nothing);
    }

    private int field(VariableTree field) {
      Set<Modifier> modifiers = field.getModifiers().getFlags();
      if (!modifiers.contains(Modifier.STATIC)) return 1;
      if (!modifiers.contains(Modifier.FINAL)) breaches.add("static, not final: " + field);
      return 0;
    }

    @Override public Void visitMethod(MethodTree tree, Void nothing) {
      method = trees.getElement(getCurrentPath());
      calls.put(method, new LinkedHashSet<>());
      if (tree.getParameters().size() > MOST_PARAMETERS) breaches.add("many parameters: " + method);
      super.visitMethod(tree, nothing);
      method = null;
      return null;
    }

    @Override public Void visitMethodInvocation(MethodInvocationTree tree, Void nothing) {
      if (method != null) calls.get(method).add(trees.getElement(getCurrentPath()));
      return super.visitMethodInvocation(tree, nothing);
    }

    @Override public Void visitNewClass(NewClassTree tree, Void nothing) {
      if (method != null) calls.get(method).add(trees.getElement(getCurrentPath()));
      return super.visitNewClass(tree, nothing);
    }
  }
}
