import com.sun.source.tree.*;
import com.sun.source.util.*;
import java.io.File;
import java.util.*;
import javax.lang.model.element.*;
import javax.lang.model.type.TypeKind;
import javax.lang.model.type.TypeMirror;
import javax.tools.*;

/** Looks whether FlatC.java keeps to the rules of LANGUAGE.md that a program can look at. */
public final class RulesTest {
  private static final int MOST_LINES = 62;
  private static final int MOST_DEPTH = 8;
  private static final int MOST_FIELDS = 22;
  private static final Set<String> LIBRARY = Set.of(
      "String.length", "String.charAt", "String.isEmpty", "String.equals", "String.indexOf", "String.substring",
      "String.toCharArray", "StringBuilder.append", "StringBuilder.charAt", "StringBuilder.length",
      "StringBuilder.toString", "System.arraycopy", "Arrays.copyOf", "Arrays.copyOfRange", "Arrays.fill",
      "Math.max", "Math.min", "Math.abs", "Long.compare", "Long.bitCount", "Integer.bitCount", "Object.<init>");
  private final Map<String, Set<String>> calls = new TreeMap<>();
  private final Set<String> told = new TreeSet<>();
  private CompilationUnitTree unit;
  private Trees trees;

  public static void main(String[] args) throws Exception {
    RulesTest test = new RulesTest();
    test.look(new File("src/main/java/FlatC.java"));
    test.lookAtDepth();
    for (String line : test.told) {
      System.out.println("WRONG " + line);
    }
    System.out.println(test.calls.size() + " methods, " + test.told.size() + " wrong");
    System.exit(test.told.isEmpty() ? 0 : 1);
  }

  private void look(File file) throws Exception {
    JavaCompiler compiler = ToolProvider.getSystemJavaCompiler();
    StandardJavaFileManager files = compiler.getStandardFileManager(null, null, null);
    JavacTask task = (JavacTask) compiler.getTask(null, files, null, List.of("-proc:none"), null,
        files.getJavaFileObjects(file));
    unit = task.parse().iterator().next();
    task.analyze();
    trees = Trees.instance(task);
    new Looker().scan(unit, null);
  }

  private long lineOf(Tree tree) {
    return unit.getLineMap().getLineNumber(trees.getSourcePositions().getStartPosition(unit, tree));
  }

  private long lastLineOf(Tree tree) {
    return unit.getLineMap().getLineNumber(trees.getSourcePositions().getEndPosition(unit, tree));
  }

  private void tell(Tree tree, String what) {
    told.add("line " + lineOf(tree) + ": " + what);
  }

  private final class Looker extends TreePathScanner<Void, Void> {
    private String method = "";
    private final Set<String> face = new HashSet<>();
    private int classes = 0;

    private Element element() {
      return trees.getElement(getCurrentPath());
    }

    @Override public Void visitClass(ClassTree c, Void p) {
      classes++;
      boolean outer = classes == 1;
      if (outer) {
        for (Tree member : c.getMembers()) {
          if (member instanceof MethodTree m && m.getModifiers().getFlags().contains(Modifier.PUBLIC)) {
            face.add(m.getName().toString());
          }
        }
      } else if (!c.getModifiers().getFlags().contains(Modifier.STATIC)) {
        tell(c, "class that is not static");
      }
      int fields = 0;
      for (Tree member : c.getMembers()) {
        if (member instanceof VariableTree v && !v.getModifiers().getFlags().contains(Modifier.STATIC)) {
          fields++;
        }
        if (outer && member instanceof VariableTree v && !v.getModifiers().getFlags().contains(Modifier.PRIVATE)) {
          tell(v, "a field that is not private");
        }
      }
      if (fields > MOST_FIELDS) {
        tell(c, c.getSimpleName() + " has " + fields + " fields");
      }
      if (classes > 14) {
        tell(c, classes + " classes");
      }
      String outside = method;
      method = c.getSimpleName() + ".<fields>";
      super.visitClass(c, p);
      method = outside;
      return null;
    }

    @Override public Void visitVariable(VariableTree v, Void p) {
      Element e = element();
      if (e.getKind() == ElementKind.FIELD && e.getModifiers().contains(Modifier.STATIC)) {
        String type = e.asType().toString();
        boolean right = Set.of("int", "long", "boolean", "char", "java.lang.String", "int[]", "long[]", "char[]",
            "byte[]").contains(type);
        if (!right || !e.getModifiers().contains(Modifier.FINAL)) {
          tell(v, "static field " + v.getName());
        }
      }
      return super.visitVariable(v, p);
    }

    @Override public Void visitMethod(MethodTree m, Void p) {
      ExecutableElement e = (ExecutableElement) element();
      method = e.getEnclosingElement().getSimpleName() + "." + e;
      calls.computeIfAbsent(method, k -> new TreeSet<>());
      long lines = lastLineOf(m) - lineOf(m) + 1;
      if (lines > MOST_LINES) {
        tell(m, method + " has " + lines + " lines");
      }
      if (m.getParameters().size() > 7) {
        tell(m, method + " has too many parameters");
      }
      boolean isPublic = e.getModifiers().contains(Modifier.PUBLIC);
      if (!isPublic && m.getReturnType() != null && face.contains(m.getName().toString())) {
        tell(m, method + " is called as one of the face");
      }
      if (!isPublic && !e.getModifiers().contains(Modifier.PRIVATE)) {
        tell(m, method + " is not private");
      }
      return super.visitMethod(m, p);
    }

    @Override public Void visitMethodInvocation(MethodInvocationTree i, Void p) {
      called((ExecutableElement) element(), i);
      return super.visitMethodInvocation(i, p);
    }

    @Override public Void visitNewClass(NewClassTree n, Void p) {
      if (n.getClassBody() != null) {
        tell(n, "anonymous class");
      }
      called((ExecutableElement) element(), n);
      return super.visitNewClass(n, p);
    }

    private void called(ExecutableElement e, Tree tree) {
      String owner = e.getEnclosingElement().getSimpleName().toString();
      boolean own = e.getEnclosingElement().toString().startsWith("FlatC");
      if (own) {
        calls.computeIfAbsent(method, k -> new TreeSet<>()).add(owner + "." + e);
      } else if (!LIBRARY.contains(owner + "." + e.getSimpleName())) {
        tell(tree, "library: " + owner + "." + e.getSimpleName());
      }
    }

    @Override public Void visitBinary(BinaryTree b, Void p) {
      TypeMirror type = trees.getTypeMirror(getCurrentPath());
      if (b.getKind() == Tree.Kind.PLUS && type.getKind() == TypeKind.DECLARED) {
        tell(b, "texts joined by +");
      }
      boolean real = type.getKind() == TypeKind.DOUBLE || type.getKind() == TypeKind.FLOAT;
      if (real && b.getKind() == Tree.Kind.REMAINDER) {
        tell(b, "% of floating numbers");
      }
      return super.visitBinary(b, p);
    }

    @Override public Void visitUnary(UnaryTree u, Void p) {
      TypeKind type = trees.getTypeMirror(getCurrentPath()).getKind();
      boolean literal = u.getExpression().getKind() == Tree.Kind.DOUBLE_LITERAL;
      if ((type == TypeKind.DOUBLE || type == TypeKind.FLOAT) && !literal) {
        tell(u, "sign before a floating number");
      }
      return super.visitUnary(u, p);
    }

    @Override public Void visitThrow(ThrowTree t, Void p) {
      tell(t, "throw");
      return super.visitThrow(t, p);
    }

    @Override public Void visitTry(TryTree t, Void p) {
      tell(t, "try");
      return super.visitTry(t, p);
    }

    @Override public Void visitAssert(AssertTree t, Void p) {
      tell(t, "assert");
      return super.visitAssert(t, p);
    }

    @Override public Void visitSynchronized(SynchronizedTree t, Void p) {
      tell(t, "synchronized");
      return super.visitSynchronized(t, p);
    }

    @Override public Void visitLambdaExpression(LambdaExpressionTree t, Void p) {
      tell(t, "lambda");
      return super.visitLambdaExpression(t, p);
    }

    @Override public Void visitMemberReference(MemberReferenceTree t, Void p) {
      tell(t, "method reference");
      return super.visitMemberReference(t, p);
    }
  }

  // How deep calls go: methods that call one another count as one.

  private final Map<String, Integer> order = new HashMap<>();
  private final Map<String, Integer> low = new HashMap<>();
  private final Deque<String> open = new ArrayDeque<>();
  private final Map<String, String> groupOf = new HashMap<>();
  private final Map<String, Set<String>> groups = new TreeMap<>();

  private void group(String m) {
    order.put(m, order.size());
    low.put(m, order.get(m));
    open.push(m);
    for (String to : calls.getOrDefault(m, Set.of())) {
      if (!order.containsKey(to)) {
        group(to);
        low.put(m, Math.min(low.get(m), low.get(to)));
      } else if (open.contains(to)) {
        low.put(m, Math.min(low.get(m), order.get(to)));
      }
    }
    if (low.get(m).equals(order.get(m))) {
      Set<String> all = new TreeSet<>();
      String one;
      do {
        one = open.pop();
        all.add(one);
        groupOf.put(one, m);
      } while (!one.equals(m));
      groups.put(m, all);
    }
  }

  private final Map<String, Integer> depths = new HashMap<>();
  private final Map<String, String> deepest = new HashMap<>();

  private int depth(String group) {
    Integer known = depths.get(group);
    if (known != null) {
      return known;
    }
    int most = 0;
    for (String m : groups.get(group)) {
      for (String to : calls.getOrDefault(m, Set.of())) {
        String other = groupOf.get(to);
        if (!other.equals(group) && depth(other) > most) {
          most = depth(other);
          deepest.put(group, other);
        }
      }
    }
    depths.put(group, most + 1);
    return most + 1;
  }

  private void lookAtDepth() {
    for (String m : new ArrayList<>(calls.keySet())) {
      if (!order.containsKey(m)) {
        group(m);
      }
    }
    for (String group : groups.keySet()) {
      if (depth(group) > MOST_DEPTH) {
        StringBuilder row = new StringBuilder();
        for (String at = group; at != null; at = deepest.get(at)) {
          row.append(at).append(groups.get(at).size() > 1 ? " [" + groups.get(at).size() + "]" : "").append(" > ");
        }
        told.add("calls " + depth(group) + " deep: " + row);
      }
    }
  }
}
