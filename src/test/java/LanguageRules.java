import com.sun.source.tree.ArrayAccessTree;
import com.sun.source.tree.AssertTree;
import com.sun.source.tree.BinaryTree;
import com.sun.source.tree.BlockTree;
import com.sun.source.tree.CatchTree;
import com.sun.source.tree.ClassTree;
import com.sun.source.tree.CompilationUnitTree;
import com.sun.source.tree.CompoundAssignmentTree;
import com.sun.source.tree.ExpressionTree;
import com.sun.source.tree.ImportTree;
import com.sun.source.tree.LambdaExpressionTree;
import com.sun.source.tree.LiteralTree;
import com.sun.source.tree.MemberReferenceTree;
import com.sun.source.tree.MethodInvocationTree;
import com.sun.source.tree.MethodTree;
import com.sun.source.tree.NewArrayTree;
import com.sun.source.tree.NewClassTree;
import com.sun.source.tree.SynchronizedTree;
import com.sun.source.tree.ThrowTree;
import com.sun.source.tree.Tree;
import com.sun.source.tree.TryTree;
import com.sun.source.tree.VariableTree;
import com.sun.source.util.TreePath;
import com.sun.source.util.TreePathScanner;
import com.sun.source.util.Trees;
import java.util.ArrayList;
import java.util.List;
import java.util.Set;
import javax.lang.model.element.Element;
import javax.lang.model.element.Modifier;
import javax.lang.model.type.TypeMirror;

/** Reads a source against LANGUAGE.md, as far as its rules can be seen from single pieces of the source. */
final class LanguageRules extends TreePathScanner<Void, Void> {
  private static final int MOST_PARAMETERS = 7;
  private static final int MOST_LINES = 60;
  private static final int MOST_CLASSES = 12;
  private static final int MOST_FIELDS = 20;
  private static final Set<Tree.Kind> LOOPS =
      Set.of(Tree.Kind.FOR_LOOP, Tree.Kind.ENHANCED_FOR_LOOP, Tree.Kind.WHILE_LOOP, Tree.Kind.DO_WHILE_LOOP);
  private static final Set<String> EXCEPTIONS = Set.of(
      "IllegalStateException", "IllegalArgumentException", "IndexOutOfBoundsException", "ArithmeticException",
      "UnsupportedOperationException", "NoSuchElementException", "RuntimeException");
  private static final Set<String> IMPORTS = Set.of(
      "java.util.ArrayList", "java.util.List", "java.util.Iterator", "java.util.Arrays",
      "java.util.NoSuchElementException");
  private static final Set<String> LIBRARY = Set.of(
      "java.util.ArrayList.get", "java.util.ArrayList.set", "java.util.ArrayList.add", "java.util.ArrayList.remove",
      "java.util.ArrayList.size", "java.util.ArrayList.isEmpty", "java.util.ArrayList.clear",
      "java.util.List.get", "java.util.List.set", "java.util.List.add", "java.util.List.remove",
      "java.util.List.size", "java.util.List.isEmpty", "java.util.List.clear", "java.lang.Math.max",
      "java.lang.Math.min", "java.lang.Math.abs", "java.lang.Integer.compare", "java.lang.Long.compare",
      "java.lang.System.arraycopy", "java.util.Arrays.fill", "java.util.Arrays.copyOf");
  private static final String NUMBERS = "(int|long|short|byte|char|boolean|double|float)";
  private static final String OWN = "TallowIndex(\\.\\w+)?";
  private static final String TYPES =
      NUMBERS + "(\\[\\]){0,2}|void|java\\.lang\\.String|java\\.lang\\.StringBuilder|" + OWN + "(\\[\\])?|"
          + "java\\.util\\.(Array)?List<(java\\.lang\\.Integer|" + OWN + ")>";

  private final Trees trees;
  private final CompilationUnitTree unit;
  private final List<String> faults = new ArrayList<>();
  private final CallGraph calls = new CallGraph();
  private int classes;
  private int looked;

  LanguageRules(Trees trees, CompilationUnitTree unit) {
    this.trees = trees;
    this.unit = unit;
  }

  List<String> faults() {
    return faults;
  }

  CallGraph calls() {
    return calls;
  }

  /** How many pieces were looked at: none would mean that nothing was read. */
  int looked() {
    return looked;
  }

  private void rule(int rule, Tree piece, boolean isKept, String otherwise) {
    looked++;
    if (isKept) return;
    long line = unit.getLineMap().getLineNumber(start(piece));
    faults.add("rule " + rule + ", line " + line + ": " + otherwise);
  }

  private long start(Tree piece) {
    return trees.getSourcePositions().getStartPosition(unit, piece);
  }

  private long lines(Tree piece) {
    long end = trees.getSourcePositions().getEndPosition(unit, piece);
    return unit.getLineMap().getLineNumber(end) - unit.getLineMap().getLineNumber(start(piece)) + 1;
  }

  private String type(Tree piece) {
    TypeMirror type = trees.getTypeMirror(new TreePath(getCurrentPath(), piece));
    return type == null ? "" : type.toString();
  }

  /** The nearest method or constructor round the piece, null in a field. */
  private MethodTree method() {
    for (Tree tree : getCurrentPath()) {
      if (tree instanceof MethodTree) return (MethodTree) tree;
    }
    return null;
  }

  private String className() {
    for (Tree tree : getCurrentPath()) {
      if (tree instanceof ClassTree) return ((ClassTree) tree).getSimpleName().toString();
    }
    return "";
  }

  private boolean isIn(Set<Tree.Kind> kinds) {
    for (Tree tree : getCurrentPath()) {
      if (tree instanceof MethodTree) return false;
      if (kinds.contains(tree.getKind())) return true;
    }
    return false;
  }

  private static boolean isConstructor(MethodTree method) {
    return method != null && method.getName().contentEquals("<init>");
  }

  @Override
  public Void visitCompilationUnit(CompilationUnitTree node, Void p) {
    rule(1, node, node.getPackage() == null, "a package line");
    rule(1, node, node.getTypeDecls().size() == 1, "not one class in the file");
    return super.visitCompilationUnit(node, p);
  }

  @Override
  public Void visitImport(ImportTree node, Void p) {
    rule(4, node, IMPORTS.contains(node.getQualifiedIdentifier().toString()), "imports " + node);
    return super.visitImport(node, p);
  }

  @Override
  public Void visitClass(ClassTree node, Void p) {
    classes++;
    boolean isInside = getCurrentPath().getParentPath().getLeaf() instanceof ClassTree;
    rule(11, node, classes <= MOST_CLASSES, "more than " + MOST_CLASSES + " classes");
    rule(2, node, classes == 1 || isInside, "a class in a method");
    rule(2, node, !isInside || node.getModifiers().getFlags().contains(Modifier.STATIC), "a class that is not static");
    int fields = 0;
    for (Tree member : node.getMembers()) {
      if (member instanceof VariableTree && !isStatic((VariableTree) member)) fields++;
      rule(5, member, !(member instanceof BlockTree), "an initialiser block");
    }
    rule(11, node, fields <= MOST_FIELDS, "more than " + MOST_FIELDS + " fields");
    return super.visitClass(node, p);
  }

  private static boolean isStatic(VariableTree variable) {
    return variable.getModifiers().getFlags().contains(Modifier.STATIC);
  }

  @Override
  public Void visitMethod(MethodTree node, Void p) {
    String name = node.getName().toString();
    rule(11, node, node.getParameters().size() <= MOST_PARAMETERS, name + " has too many parameters");
    rule(11, node, lines(node) <= MOST_LINES, name + " is too long");
    rule(6, node, !Set.of("equals", "hashCode", "toString").contains(name), "its own " + name);
    if (node.getReturnType() != null) mayBe(node.getReturnType());
    return super.visitMethod(node, p);
  }

  @Override
  public Void visitVariable(VariableTree node, Void p) {
    rule(5, node, !isStatic(node) || node.getModifiers().getFlags().contains(Modifier.FINAL), "static, not final");
    if (getCurrentPath().getParentPath().getLeaf() instanceof CatchTree) return super.visitVariable(node, p);
    mayBe(node.getType());
    return super.visitVariable(node, p);
  }

  private void mayBe(Tree type) {
    rule(3, type, type(type).matches(TYPES), "the type " + type(type));
  }

  @Override
  public Void visitLambdaExpression(LambdaExpressionTree node, Void p) {
    rule(2, node, false, "a lambda");
    return super.visitLambdaExpression(node, p);
  }

  @Override
  public Void visitMemberReference(MemberReferenceTree node, Void p) {
    rule(2, node, false, "a method reference");
    return super.visitMemberReference(node, p);
  }

  @Override
  public Void visitSynchronized(SynchronizedTree node, Void p) {
    rule(6, node, false, "synchronized");
    return super.visitSynchronized(node, p);
  }

  @Override
  public Void visitAssert(AssertTree node, Void p) {
    rule(6, node, false, "assert");
    return super.visitAssert(node, p);
  }

  /** The class answers no call by catching; should it ever, this must become the finer rule of LANGUAGE.md. */
  @Override
  public Void visitTry(TryTree node, Void p) {
    rule(6, node, false, "try");
    return super.visitTry(node, p);
  }

  @Override
  public Void visitThrow(ThrowTree node, Void p) {
    rule(6, node, isAllowedThrow(node.getExpression()), "throws " + node.getExpression());
    rule(6, node, !isConstructor(method()), "a throw in a constructor");
    return super.visitThrow(node, p);
  }

  private static boolean isAllowedThrow(ExpressionTree thrown) {
    if (!(thrown instanceof NewClassTree)) return false;
    NewClassTree made = (NewClassTree) thrown;
    if (made.getClassBody() != null || !EXCEPTIONS.contains(made.getIdentifier().toString())) return false;
    List<? extends ExpressionTree> arguments = made.getArguments();
    return arguments.isEmpty() || arguments.size() == 1 && arguments.get(0) instanceof LiteralTree;
  }

  @Override
  public Void visitBinary(BinaryTree node, Void p) {
    boolean isOfText = (type(node.getLeftOperand()) + type(node.getRightOperand())).contains("java.lang.String");
    rule(10, node, node.getKind() != Tree.Kind.PLUS || !isOfText, "texts joined by +");
    boolean isComparison = node.getKind() == Tree.Kind.EQUAL_TO || node.getKind() == Tree.Kind.NOT_EQUAL_TO;
    rule(6, node, !isComparison || !isOfText, "== of texts");
    boolean isOfFloat = type(node).matches("double|float");
    rule(3, node, !isOfFloat || node.getKind() != Tree.Kind.REMAINDER, "% of floats");
    return super.visitBinary(node, p);
  }

  @Override
  public Void visitCompoundAssignment(CompoundAssignmentTree node, Void p) {
    rule(10, node, !type(node.getVariable()).equals("java.lang.String"), "texts joined by +=");
    return super.visitCompoundAssignment(node, p);
  }

  @Override
  public Void visitMethodInvocation(MethodInvocationTree node, Void p) {
    Element called = trees.getElement(getCurrentPath());
    if (!called.getSimpleName().contentEquals("<init>")) noteCall(node, called);
    return super.visitMethodInvocation(node, p);
  }

  private void noteCall(Tree node, Element called) {
    String owner = called.getEnclosingElement().toString();
    if (owner.matches(OWN)) calls.add(caller(), owner + "." + called.getSimpleName());
    else rule(4, node, LIBRARY.contains(owner + "." + called.getSimpleName()), "the library's " + owner + "." + called);
  }

  private String caller() {
    MethodTree method = method();
    String owner = className().equals("TallowIndex") ? "TallowIndex" : "TallowIndex." + className();
    return owner + "." + (method == null ? "<init>" : method.getName().toString());
  }

  @Override
  public Void visitNewClass(NewClassTree node, Void p) {
    boolean isThrown = getCurrentPath().getParentPath().getLeaf() instanceof ThrowTree;
    String made = type(node);
    rule(4, node, isThrown || made.matches(OWN + "|java\\.util\\.ArrayList<.*>|java\\.lang\\.String(Builder)?"),
        "makes a " + made);
    rule(12, node, isThrown || !isIn(LOOPS), "makes an object in a loop");
    if (made.matches(OWN)) calls.add(caller(), made + ".<init>");
    return super.visitNewClass(node, p);
  }

  @Override
  public Void visitNewArray(NewArrayTree node, Void p) {
    rule(12, node, !isIn(LOOPS), "makes an array in a loop");
    rule(7, node, className().equals("Row"), "makes an array outside Row, which looks at each index");
    return super.visitNewArray(node, p);
  }

  @Override
  public Void visitArrayAccess(ArrayAccessTree node, Void p) {
    rule(7, node, className().equals("Row"), "uses an index outside Row, which looks at each index");
    return super.visitArrayAccess(node, p);
  }
}
