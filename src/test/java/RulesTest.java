import com.sun.source.tree.*;
import com.sun.source.util.JavacTask;
import com.sun.source.util.TreePath;
import com.sun.source.util.TreePathScanner;
import com.sun.source.util.Trees;
import java.io.IOException;
import java.nio.file.Files;
import java.nio.file.Path;
import java.util.ArrayDeque;
import java.util.ArrayList;
import java.util.Deque;
import java.util.HashMap;
import java.util.HashSet;
import java.util.LinkedHashSet;
import java.util.List;
import java.util.Map;
import java.util.Set;
import javax.lang.model.element.Element;
import javax.lang.model.element.ElementKind;
import javax.lang.model.element.ExecutableElement;
import javax.lang.model.element.Modifier;
import javax.lang.model.element.VariableElement;
import javax.lang.model.type.ArrayType;
import javax.lang.model.type.TypeMirror;
import javax.tools.JavaCompiler;
import javax.tools.StandardJavaFileManager;
import javax.tools.ToolProvider;

/** The rules of LANGUAGE.md, as far as javac's own tree of the class shows them; each finding begins with its rule's number. */
public final class RulesTest {
  private static final Due d = new Due();
  private static final int MOST_LINES = 60, MOST_PARAMETERS = 7, MOST_CLASSES = 12, MOST_FIELDS = 20, DEEPEST = 8;
  private static final Set<String> IMPORTS =
      Set.of("java.util.Arrays", "java.util.ArrayList", "java.util.List", "java.util.Iterator");
  private static final Set<String> LIBRARY = Set.of("String.length", "String.charAt", "String.isEmpty", "String.equals",
      "String.indexOf", "String.substring", "String.toCharArray", "StringBuilder.append", "StringBuilder.charAt",
      "StringBuilder.setCharAt", "StringBuilder.setLength", "StringBuilder.deleteCharAt", "StringBuilder.reverse",
      "StringBuilder.length", "StringBuilder.toString", "ArrayList.add", "ArrayList.get", "ArrayList.set", "ArrayList.remove",
      "ArrayList.size", "ArrayList.isEmpty", "ArrayList.clear", "List.add", "List.get", "List.set", "List.remove", "List.size",
      "List.isEmpty", "List.clear", "List.of", "Integer.compare", "Integer.max", "Integer.min", "Integer.bitCount",
      "Long.compare", "Long.max", "Long.min", "Long.bitCount", "Math.max", "Math.min", "Math.abs", "Math.floorDiv",
      "Math.floorMod", "System.arraycopy", "Arrays.copyOf", "Arrays.copyOfRange", "Arrays.fill");
  private static final Set<String> MADE = Set.of("String", "StringBuilder", "ArrayList");
  private static final Set<String> TYPES =
      Set.of("int", "long", "short", "byte", "char", "boolean", "double", "float", "void", "java.lang.String");
  private static final Set<String> CONSTANTS = Set.of("int", "long", "boolean", "char", "java.lang.String");

  public static void main(String[] args) throws IOException {
    Path file = Path.of(args.length > 0 ? args[0] : "src/main/java/HallCoughs.java");
    JavaCompiler javac = ToolProvider.getSystemJavaCompiler();
    try (StandardJavaFileManager files = javac.getStandardFileManager(null, null, null)) {
      JavacTask task = (JavacTask) javac.getTask(null, files, null, List.of("-proc:none"), null, files.getJavaFileObjects(file));
      Iterable<? extends CompilationUnitTree> units = task.parse();
      task.analyze();
      for (CompilationUnitTree unit : units) {
        new Walk(unit, Trees.instance(task)).all();
      }
    }
    String source = Files.readString(file);
    d.holds("4: all signs of the file are plain", source.chars().allMatch(c -> c == '\n' || c >= 32 && c < 127));
    d.end();
  }

  private static final class Walk extends TreePathScanner<Void, Void> {
    private final CompilationUnitTree unit;
    private final Trees trees;
    private final Map<Element, Set<Element>> calls = new HashMap<>();
    private final Map<Element, MethodTree> methods = new HashMap<>();
    private final Set<String> publicNames = new HashSet<>();
    private int classes = 0;

    Walk(CompilationUnitTree unit, Trees trees) {
      this.unit = unit;
      this.trees = trees;
    }

    void all() {
      d.holds("1: no package line, one class", unit.getPackageName() == null && unit.getTypeDecls().size() == 1);
      for (ImportTree i : unit.getImports()) {
        d.holds("4: " + i, !i.isStatic() && IMPORTS.contains(i.getQualifiedIdentifier().toString()));
      }
      scan(unit, null);
      d.holds("11: so many classes", classes <= MOST_CLASSES);
      for (Element m : methods.keySet()) {
        if (!m.getModifiers().contains(Modifier.PUBLIC) && m.getKind() == ElementKind.METHOD) {
          d.holds("1: the name of " + m, !publicNames.contains(m.getSimpleName().toString()));
        }
        if (reaches(m, m)) {
          d.holds("8: " + m + ", which calls itself, is private", m.getModifiers().contains(Modifier.PRIVATE));
        }
        int deep = deepFrom(m, new HashSet<>());
        d.holds("11: calls from " + m + " go " + deep + " deep", deep <= DEEPEST);
      }
    }

    private long line(Tree t) {
      return unit.getLineMap().getLineNumber(trees.getSourcePositions().getStartPosition(unit, t));
    }

    private long lastLine(Tree t) {
      return unit.getLineMap().getLineNumber(trees.getSourcePositions().getEndPosition(unit, t));
    }

    private void holds(int rule, String what, Tree t, boolean so) {
      d.holds(rule + ": " + what + " (line " + line(t) + ")", so);
    }

    private Element element(Tree t) {
      return trees.getElement(new TreePath(getCurrentPath(), t));
    }

    private TypeMirror type(Tree t) {
      return trees.getTypeMirror(new TreePath(getCurrentPath(), t));
    }

    /** Whether it stands in the file, at whatever depth. */
    private boolean own(Element e) {
      Element at = e;
      while (at != null && at.getEnclosingElement() != null && at.getEnclosingElement().getKind() != ElementKind.PACKAGE) {
        at = at.getEnclosingElement();
      }
      return at != null && at.getSimpleName().contentEquals("HallCoughs");
    }

    private boolean goodType(TypeMirror t) {
      String name = t.toString();
      if (t instanceof ArrayType a) {
        TypeMirror part = a.getComponentType();
        return part instanceof ArrayType inner ? inner.getComponentType().getKind().isPrimitive()
            : part.getKind().isPrimitive() || name.startsWith("HallCoughs.");
      }
      return TYPES.contains(name) || name.startsWith("HallCoughs.") || name.equals("java.lang.StringBuilder")
          || name.startsWith("java.util.List<") || name.startsWith("java.util.ArrayList<");
    }

    // ---- classes and members: rules 1, 2, 5, 11, 12

    @Override public Void visitClass(ClassTree c, Void v) {
      classes++;
      Set<Modifier> is = c.getModifiers().getFlags();
      Tree around = getCurrentPath().getParentPath().getLeaf();
      if (around == unit) {
        holds(1, "public and final", c, is.contains(Modifier.PUBLIC) && is.contains(Modifier.FINAL));
      } else {
        holds(2, "a class stands in a class", c, around instanceof ClassTree);
        holds(2, "a class inside is static", c, is.contains(Modifier.STATIC) || c.getKind() != Tree.Kind.CLASS);
        holds(1, "a class inside is not public", c, !is.contains(Modifier.PUBLIC) && !is.contains(Modifier.PROTECTED));
        holds(12, "no class can override what a constructor calls", c,
            is.contains(Modifier.FINAL) || c.getKind() != Tree.Kind.CLASS);
      }
      int fields = 0;
      for (Tree member : c.getMembers()) {
        holds(5, "no block of a class's own", member, !(member instanceof BlockTree));
        if (member instanceof VariableTree f && !f.getModifiers().getFlags().contains(Modifier.STATIC)) {
          fields++;
        }
        if (around == unit && member instanceof VariableTree f && !f.getModifiers().getFlags().contains(Modifier.PUBLIC)) {
          holds(1, "private: " + f.getName(), f, f.getModifiers().getFlags().contains(Modifier.PRIVATE));
        }
      }
      holds(11, "so many fields", c, fields <= MOST_FIELDS);
      return super.visitClass(c, v);
    }

    @Override public Void visitVariable(VariableTree f, Void v) {
      VariableElement e = (VariableElement) trees.getElement(getCurrentPath());
      holds(3, "the type of " + f, f, goodType(e.asType()));
      if (e.getKind() == ElementKind.FIELD && e.getModifiers().contains(Modifier.STATIC)) {
        holds(5, "final: " + f, f, e.getModifiers().contains(Modifier.FINAL));
        boolean written = f.getInitializer() instanceof NewArrayTree a && a.getInitializers() != null
            && Set.of("int[]", "long[]", "char[]", "byte[]").contains(e.asType().toString());
        holds(5, "a constant, or an array written out: " + f, f,
            written || CONSTANTS.contains(e.asType().toString()) && e.getConstantValue() != null);
      }
      return super.visitVariable(f, v);
    }

    @Override public Void visitMethod(MethodTree m, Void v) {
      ExecutableElement e = (ExecutableElement) trees.getElement(getCurrentPath());
      methods.put(e, m);
      calls.computeIfAbsent(e, k -> new LinkedHashSet<>());
      if (e.getModifiers().contains(Modifier.PUBLIC)) {
        publicNames.add(m.getName().toString());
        holds(1, "public only of HallCoughs", m, e.getEnclosingElement().getSimpleName().contentEquals("HallCoughs"));
      } else if (e.getEnclosingElement().getSimpleName().contentEquals("HallCoughs")) {
        holds(1, "private", m, e.getModifiers().contains(Modifier.PRIVATE));
      }
      holds(3, "what " + m.getName() + " gives", m, m.getReturnType() == null || goodType(e.getReturnType()));
      holds(6, "nothing is thrown", m, m.getThrows().isEmpty());
      holds(6, "the name of " + m.getName(), m, !Set.of("equals", "hashCode", "toString").contains(m.getName().toString()));
      holds(11, "so many parameters", m, m.getParameters().size() <= MOST_PARAMETERS);
      holds(11, m.getName() + " is short", m, lastLine(m) - line(m) + 1 <= MOST_LINES);
      return super.visitMethod(m, v);
    }

    // ---- what must not stand at all: rules 2, 6

    private Void never(int rule, Tree t) {
      holds(rule, "no " + t.getKind(), t, false);
      return null;
    }

    @Override public Void visitThrow(ThrowTree t, Void v) { return never(6, t); }
    @Override public Void visitTry(TryTree t, Void v) { return never(6, t); }
    @Override public Void visitSynchronized(SynchronizedTree t, Void v) { return never(6, t); }
    @Override public Void visitAssert(AssertTree t, Void v) { return never(6, t); }
    @Override public Void visitLambdaExpression(LambdaExpressionTree t, Void v) { return never(2, t); }
    @Override public Void visitMemberReference(MemberReferenceTree t, Void v) { return never(2, t); }
    @Override public Void visitAnnotation(AnnotationTree t, Void v) { return never(4, t); }

    @Override public Void visitSwitch(SwitchTree s, Void v) {
      TypeMirror t = type(((ParenthesizedTree) s.getExpression()).getExpression());
      holds(6, "a switch on numbers or enums", s, t.getKind().isPrimitive() || t.toString().startsWith("HallCoughs."));
      return super.visitSwitch(s, v);
    }

    @Override public Void visitTypeCast(TypeCastTree c, Void v) {
      holds(6, "a cast of numbers (others stand behind a test): " + c, c, type(c.getType()).getKind().isPrimitive());
      return super.visitTypeCast(c, v);
    }

    // ---- signs: rules 5, 6, 10

    @Override public Void visitBinary(BinaryTree b, Void v) {
      TypeMirror left = type(b.getLeftOperand());
      TypeMirror right = type(b.getRightOperand());
      boolean texts = (left + " " + right).contains("java.lang.String");
      boolean boxes = left.toString().equals("java.lang.Integer") && right.toString().equals("java.lang.Integer");
      switch (b.getKind()) {
        case PLUS: holds(10, "no texts joined by +", b, !texts); break;
        case EQUAL_TO: case NOT_EQUAL_TO: holds(6, "never == of texts: " + b, b, !texts && !boxes); break;
        case DIVIDE: case REMAINDER: holds(7, "a divisor that can't be 0, or is looked at: " + b, b, looked(b)); break;
        default: break;
      }
      return super.visitBinary(b, v);
    }

    /** A constant that is not 0; else there must be a test of the divisor in the statement or in its method. */
    private boolean looked(BinaryTree b) {
      Tree by = b.getRightOperand();
      if (by instanceof LiteralTree l) {
        return !Integer.valueOf(0).equals(l.getValue());
      }
      if (element(by) instanceof VariableElement e && e.getConstantValue() != null) {
        return !Integer.valueOf(0).equals(e.getConstantValue());
      }
      TreePath at = getCurrentPath();
      while (!(at.getLeaf() instanceof MethodTree) && !(at.getLeaf() instanceof CaseTree)) {
        at = at.getParentPath();
      }
      String all = at.getLeaf().toString();
      return all.contains(by + " == 0 ?") || all.contains(by + " < 1 ?");
    }

    @Override public Void visitCompoundAssignment(CompoundAssignmentTree a, Void v) {
      holds(10, "no texts joined by +=", a, !type(a.getVariable()).toString().startsWith("java.lang."));
      holds(7, "no /= or %=", a, a.getKind() != Tree.Kind.DIVIDE_ASSIGNMENT && a.getKind() != Tree.Kind.REMAINDER_ASSIGNMENT);
      return super.visitCompoundAssignment(a, v);
    }

    @Override public Void visitIdentifier(IdentifierTree i, Void v) {
      Element e = trees.getElement(getCurrentPath());
      Tree around = getCurrentPath().getParentPath().getLeaf();
      boolean staticArray = e != null && e.getKind() == ElementKind.FIELD && e.getModifiers().contains(Modifier.STATIC)
          && e.asType() instanceof ArrayType;
      if (staticArray) {
        Tree above = getCurrentPath().getParentPath().getParentPath().getLeaf();
        boolean changed = above instanceof AssignmentTree a && a.getVariable() == around
            || above instanceof CompoundAssignmentTree || above instanceof UnaryTree;
        holds(5, "never changed, handed to nobody: " + i, i,
            around instanceof ArrayAccessTree && !changed || around instanceof MemberSelectTree);
      }
      return super.visitIdentifier(i, v);
    }

    @Override public Void visitLiteral(LiteralTree l, Void v) {
      if (l.getValue() instanceof String s) {
        holds(4, "signs of a text", l, s.chars().allMatch(c -> c >= 1 && c <= 127));
      }
      return super.visitLiteral(l, v);
    }

    // ---- the library, objects made: rules 4, 12

    @Override public Void visitMethodInvocation(MethodInvocationTree c, Void v) {
      Element called = element(c.getMethodSelect());
      if (own(called)) {
        TreePath at = getCurrentPath();
        while (!(at.getLeaf() instanceof MethodTree) && !(at.getLeaf() instanceof ClassTree)) {
          at = at.getParentPath();
        }
        calls.computeIfAbsent(trees.getElement(at), k -> new LinkedHashSet<>()).add(called);
      } else if (!called.getSimpleName().contentEquals("<init>")) {
        boolean arrayClone = called.getSimpleName().contentEquals("clone") && c.getMethodSelect() instanceof MemberSelectTree s
            && type(s.getExpression()) == null;
        String name = called.getEnclosingElement().getSimpleName() + "." + called.getSimpleName();
        holds(4, "not in the library: " + c, c, arrayClone || LIBRARY.contains(name));
      }
      return super.visitMethodInvocation(c, v);
    }

    @Override public Void visitMemberSelect(MemberSelectTree s, Void v) {
      Element e = trees.getElement(getCurrentPath());
      boolean field = e != null && e.getKind() == ElementKind.FIELD && !own(e);
      if (field) {
        holds(4, "no field of the library: " + s, s, s.getIdentifier().contentEquals("length"));
      }
      return super.visitMemberSelect(s, v);
    }

    @Override public Void visitNewClass(NewClassTree n, Void v) {
      holds(2, "no body behind new", n, n.getClassBody() == null);
      String name = type(n.getIdentifier()).toString().replaceAll("<.*", "");
      holds(4, "not in the library: " + n, n, name.startsWith("HallCoughs.") || MADE.contains(name.replaceAll(".*\\.", "")));
      made(n);
      return super.visitNewClass(n, v);
    }

    @Override public Void visitNewArray(NewArrayTree n, Void v) {
      made(n);
      return super.visitNewArray(n, v);
    }

    private void made(Tree n) {
      for (Tree around : getCurrentPath()) {
        holds(12, "nothing is made in a loop without a counter", n, !(around instanceof WhileLoopTree)
            && !(around instanceof DoWhileLoopTree));
      }
    }

    // ---- loops: rule 9

    private void ends(Tree loop, ExpressionTree until) {
      holds(9, "a loop has an end", loop, until != null && !until.toString().replaceAll("[()]", "").equals("true"));
    }

    @Override public Void visitForLoop(ForLoopTree f, Void v) {
      ends(f, f.getCondition());
      holds(9, "a for loop counts", f, f.getInitializer().size() == 1 && f.getUpdate().size() == 1);
      return super.visitForLoop(f, v);
    }

    @Override public Void visitWhileLoop(WhileLoopTree w, Void v) {
      ends(w, w.getCondition());
      return super.visitWhileLoop(w, v);
    }

    @Override public Void visitDoWhileLoop(DoWhileLoopTree w, Void v) {
      ends(w, w.getCondition());
      return super.visitDoWhileLoop(w, v);
    }

    // ---- who calls whom: rules 8, 11

    private boolean reaches(Element from, Element to) {
      Set<Element> seen = new HashSet<>();
      Deque<Element> open = new ArrayDeque<>(calls.getOrDefault(from, Set.of()));
      while (!open.isEmpty()) {
        Element e = open.pop();
        if (e.equals(to)) {
          return true;
        }
        if (seen.add(e)) {
          open.addAll(calls.getOrDefault(e, Set.of()));
        }
      }
      return false;
    }

    /** The longest chain of calls; those that call one another count once, together. */
    private int deepFrom(Element m, Set<Element> within) {
      List<Element> circle = new ArrayList<>(List.of(m));
      for (Element e : methods.keySet()) {
        if (!e.equals(m) && reaches(m, e) && reaches(e, m)) {
          circle.add(e);
        }
      }
      int deepest = 0;
      for (Element e : circle) {
        for (Element next : calls.getOrDefault(e, Set.of())) {
          if (!circle.contains(next) && within.add(next)) {
            deepest = Math.max(deepest, deepFrom(next, within));
            within.remove(next);
          }
        }
      }
      return 1 + deepest;
    }
  }
}
