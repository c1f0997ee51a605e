import com.sun.source.tree.AssertTree;
import com.sun.source.tree.BinaryTree;
import com.sun.source.tree.CompilationUnitTree;
import com.sun.source.tree.LambdaExpressionTree;
import com.sun.source.tree.MemberReferenceTree;
import com.sun.source.tree.MethodInvocationTree;
import com.sun.source.tree.MethodTree;
import com.sun.source.tree.NewClassTree;
import com.sun.source.tree.SynchronizedTree;
import com.sun.source.tree.ThrowTree;
import com.sun.source.tree.Tree;
import com.sun.source.tree.TryTree;
import com.sun.source.tree.VariableTree;
import com.sun.source.util.JavacTask;
import com.sun.source.util.TreePath;
import com.sun.source.util.TreePathScanner;
import com.sun.source.util.Trees;
import java.io.IOException;
import java.nio.file.Path;
import java.util.ArrayList;
import java.util.Collections;
import java.util.List;
import java.util.Map;
import java.util.Set;
import java.util.TreeMap;
import java.util.TreeSet;
import javax.lang.model.element.Element;
import javax.lang.model.element.ElementKind;
import javax.lang.model.element.ExecutableElement;
import javax.lang.model.element.Modifier;
import javax.lang.model.element.TypeElement;
import javax.lang.model.type.TypeKind;
import javax.lang.model.type.TypeMirror;
import javax.tools.JavaCompiler;
import javax.tools.StandardJavaFileManager;
import javax.tools.ToolProvider;

/** The rules of LANGUAGE.md that the compiler's tree of the program shows. */
public final class ShapeTests {
  private static final String SOURCE = "src/main/java/TestkitchenBench.java";
  private static final int DEEPEST = 8;
  private static final int LONGEST_METHOD = 60;
  private static final Set<String> ARRAYS = Set.of("fill", "copyOf", "copyOfRange");
  private static final Set<String> TEXTS = Set.of("length", "charAt", "isEmpty", "equals",
      "indexOf", "substring", "toCharArray");
  private static final Set<String> BUILDERS = Set.of("append", "charAt", "setCharAt", "setLength",
      "deleteCharAt", "reverse", "length", "toString");
  private static final Set<String> LISTS = Set.of("add", "get", "set", "remove", "size", "isEmpty",
      "clear", "of");
  private static final Set<String> MAY_BE_THROWN = Set.of("IllegalStateException",
      "IllegalArgumentException", "IndexOutOfBoundsException", "ArithmeticException",
      "UnsupportedOperationException", "NoSuchElementException", "RuntimeException");
  private static final Check check = new Check("ShapeTests");

  private final Trees trees;
  private final CompilationUnitTree unit;
  private final Map<String, Set<String>> calls = new TreeMap<>();
  private final Set<String> face = new TreeSet<>();

  private ShapeTests(Trees trees, CompilationUnitTree unit) {
    this.trees = trees;
    this.unit = unit;
  }

  public static void main(String[] args) throws IOException {
    JavaCompiler compiler = ToolProvider.getSystemJavaCompiler();
    try (StandardJavaFileManager files = compiler.getStandardFileManager(null, null, null)) {
      JavacTask task = (JavacTask) compiler.getTask(null, files, null,
          List.of("--release", "17", "-proc:none"), null,
          files.getJavaFileObjects(Path.of(SOURCE)));
      CompilationUnitTree unit = task.parse().iterator().next();
      task.analyze();
      ShapeTests shape = new ShapeTests(Trees.instance(task), unit);
      shape.new Reader().scan(unit, null);
      shape.depths();
    }
    check.end();
  }

  private void depths() {
    check.due("the calls were seen", true, () -> calls.size() > 25);
    for (String method : calls.keySet()) {
      List<String> deepest = deepestFrom(method, new ArrayList<>());
      check.due("rule 11: at most eight deep: " + deepest, true, () -> deepest.size() <= DEEPEST);
    }
  }

  private List<String> deepestFrom(String method, List<String> open) {
    List<String> deepest = Collections.emptyList();
    open.add(method);
    for (String next : calls.getOrDefault(method, Set.of())) {
      if (open.contains(next)) {
        check.due("rule 8: a call of the face is no recursion: " + next, false,
            () -> face.contains(next));
        continue;
      }
      List<String> behind = deepestFrom(next, open);
      deepest = behind.size() > deepest.size() ? behind : deepest;
    }
    open.remove(method);
    List<String> whole = new ArrayList<>(List.of(method));
    whole.addAll(deepest);
    return whole;
  }

  private static boolean inLibrary(String owner, String name) {
    switch (owner) {
      case "java.util.Arrays":
        return ARRAYS.contains(name);
      case "java.lang.String":
        return TEXTS.contains(name);
      case "java.lang.StringBuilder":
        return BUILDERS.contains(name);
      case "java.util.List":
      case "java.util.ArrayList":
        return LISTS.contains(name);
      case "java.lang.Math":
      case "java.lang.Integer":
      case "java.lang.Long":
        return !name.endsWith("Exact");
      case "java.lang.System":
        return name.equals("arraycopy");
      default:
        return owner.matches("java\\.(util\\.Iterator|lang\\.(Iterable|Comparable|Enum))")
            || name.equals("clone");
    }
  }

  private long linesOf(Tree tree) {
    long from = trees.getSourcePositions().getStartPosition(unit, tree);
    long to = trees.getSourcePositions().getEndPosition(unit, tree);
    return unit.getLineMap().getLineNumber(to) - unit.getLineMap().getLineNumber(from) + 1;
  }

  private static String nameOf(Element method) {
    return ((TypeElement) method.getEnclosingElement()).getSimpleName() + "." + method;
  }

  private final class Reader extends TreePathScanner<Void, Void> {
    private ExecutableElement inside;

    private Element here(Tree tree) {
      return trees.getElement(new TreePath(getCurrentPath(), tree));
    }

    private void never(Tree tree, String rule) {
      check.due(rule + ": none, but line " + unit.getLineMap().getLineNumber(
          trees.getSourcePositions().getStartPosition(unit, tree)), true, () -> false);
    }

    @Override
    public Void visitMethod(MethodTree tree, Void nothing) {
      ExecutableElement before = inside;
      inside = (ExecutableElement) trees.getElement(getCurrentPath());
      String name = nameOf(inside);
      calls.put(name, new TreeSet<>());
      if (inside.getModifiers().contains(Modifier.PUBLIC)) {
        face.add(name);
      }
      long lines = linesOf(tree);
      check.due("rule 11: " + name + " is short", true, () -> lines <= LONGEST_METHOD);
      super.visitMethod(tree, nothing);
      inside = before;
      return null;
    }

    @Override
    public Void visitMethodInvocation(MethodInvocationTree tree, Void nothing) {
      ExecutableElement called = (ExecutableElement) here(tree);
      if (called.getKind() == ElementKind.METHOD) {
        String owner = ((TypeElement) called.getEnclosingElement()).getQualifiedName().toString();
        String name = called.getSimpleName().toString();
        if (owner.startsWith("TestkitchenBench")) {
          calls.get(nameOf(inside)).add(nameOf(called));
        } else {
          check.due("rule 4: " + owner + "." + name, true, () -> inLibrary(owner, name));
        }
      }
      return super.visitMethodInvocation(tree, nothing);
    }

    @Override
    public Void visitNewClass(NewClassTree tree, Void nothing) {
      Element made = here(tree).getEnclosingElement();
      String name = made.getSimpleName().toString();
      boolean own = made.toString().startsWith("TestkitchenBench");
      check.due("rule 4: new " + made, true, () -> own || MAY_BE_THROWN.contains(name)
          || Set.of("ArrayList", "StringBuilder", "String").contains(name));
      return super.visitNewClass(tree, nothing);
    }

    @Override
    public Void visitVariable(VariableTree tree, Void nothing) {
      TypeMirror type = trees.getElement(getCurrentPath()).asType();
      check.due("rule 3: " + tree.getName() + " is " + type, true, () -> isAllowed(type));
      return super.visitVariable(tree, nothing);
    }

    private boolean isAllowed(TypeMirror type) {
      String name = type.toString();
      String element = name.replace("[]", "");
      boolean number = Set.of("int", "long", "short", "byte", "char", "boolean", "double", "float")
          .contains(element);
      boolean own = element.startsWith("TestkitchenBench");
      int dimensions = (name.length() - element.length()) / 2;
      if (dimensions > 0) {
        return dimensions == 1 && (number || own) || dimensions == 2 && number;
      }
      return number || own || name.matches("java\\.lang\\.(String|StringBuilder|Integer)")
          || name.matches("java\\.util\\.(Array)?List<(java\\.lang\\.Integer|Testkitchen.*)>");
    }

    @Override
    public Void visitThrow(ThrowTree tree, Void nothing) {
      check.due("rule 6: no throw in a constructor", true,
          () -> inside != null && inside.getKind() == ElementKind.METHOD);
      return super.visitThrow(tree, nothing);
    }

    @Override
    public Void visitBinary(BinaryTree tree, Void nothing) {
      TypeMirror type = trees.getTypeMirror(getCurrentPath());
      check.due("rule 10: texts are not joined by +", true, () -> type.getKind() != TypeKind.DECLARED);
      return super.visitBinary(tree, nothing);
    }

    @Override
    public Void visitTry(TryTree tree, Void nothing) {
      check.due("rule 6: no finally", true, () -> tree.getFinallyBlock() == null);
      check.due("rule 6: no resources", true, () -> tree.getResources().isEmpty());
      return super.visitTry(tree, nothing);
    }

    @Override
    public Void visitLambdaExpression(LambdaExpressionTree tree, Void nothing) {
      never(tree, "rule 2: lambda");
      return super.visitLambdaExpression(tree, nothing);
    }

    @Override
    public Void visitMemberReference(MemberReferenceTree tree, Void nothing) {
      never(tree, "rule 2: method reference");
      return super.visitMemberReference(tree, nothing);
    }

    @Override
    public Void visitSynchronized(SynchronizedTree tree, Void nothing) {
      never(tree, "rule 6: synchronized");
      return super.visitSynchronized(tree, nothing);
    }

    @Override
    public Void visitAssert(AssertTree tree, Void nothing) {
      never(tree, "rule 6: assert");
      return super.visitAssert(tree, nothing);
    }
  }
}
