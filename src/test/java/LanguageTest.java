import com.sun.source.tree.ArrayAccessTree;
import com.sun.source.tree.AssignmentTree;
import com.sun.source.tree.BinaryTree;
import com.sun.source.tree.BlockTree;
import com.sun.source.tree.ClassTree;
import com.sun.source.tree.CompilationUnitTree;
import com.sun.source.tree.CompoundAssignmentTree;
import com.sun.source.tree.ConditionalExpressionTree;
import com.sun.source.tree.DoWhileLoopTree;
import com.sun.source.tree.ExpressionTree;
import com.sun.source.tree.ForLoopTree;
import com.sun.source.tree.IfTree;
import com.sun.source.tree.ImportTree;
import com.sun.source.tree.LiteralTree;
import com.sun.source.tree.MemberSelectTree;
import com.sun.source.tree.MethodInvocationTree;
import com.sun.source.tree.MethodTree;
import com.sun.source.tree.NewArrayTree;
import com.sun.source.tree.NewClassTree;
import com.sun.source.tree.Tree;
import com.sun.source.tree.TypeCastTree;
import com.sun.source.tree.VariableTree;
import com.sun.source.tree.WhileLoopTree;
import com.sun.source.util.JavacTask;
import com.sun.source.util.TreePath;
import com.sun.source.util.TreePathScanner;
import com.sun.source.util.Trees;
import java.nio.file.Path;
import java.util.HashMap;
import java.util.HashSet;
import java.util.List;
import java.util.Map;
import java.util.Set;
import javax.lang.model.element.Element;
import javax.lang.model.element.ElementKind;
import javax.lang.model.element.Modifier;
import javax.lang.model.element.TypeElement;
import javax.lang.model.element.VariableElement;
import javax.lang.model.type.ArrayType;
import javax.lang.model.type.TypeKind;
import javax.lang.model.type.TypeMirror;
import javax.tools.JavaCompiler;
import javax.tools.StandardJavaFileManager;
import javax.tools.ToolProvider;

/** The rules of LANGUAGE.md, looked up in the tree that javac makes of the program. Run from the project's folder. */
public final class LanguageTest extends TreePathScanner<Void, Void> {
  private static final Path CLASS = Path.of("src/main/java/CutListDesk.java");
  private static final Set<Tree.Kind> LEFT_OUT = Set.of(Tree.Kind.THROW, Tree.Kind.TRY, Tree.Kind.CATCH, Tree.Kind.SYNCHRONIZED,
      Tree.Kind.ASSERT, Tree.Kind.LAMBDA_EXPRESSION, Tree.Kind.MEMBER_REFERENCE, Tree.Kind.PACKAGE);
  private static final Set<String> IMPORTS = Set.of("java.util.Arrays", "java.util.ArrayList", "java.util.List", "java.util.Iterator");
  /** What of rule 4 a class without texts and lists can need. */
  private static final Set<String> LIBRARY = Set.of("java.lang.Math.max", "java.lang.Math.min", "java.lang.Math.abs",
      "java.lang.Math.floorDiv", "java.lang.Math.floorMod", "java.lang.Integer.compare", "java.lang.Integer.max", "java.lang.Integer.min",
      "java.lang.Integer.bitCount", "java.lang.Long.compare", "java.lang.System.arraycopy", "java.util.Arrays.copyOf",
      "java.util.Arrays.copyOfRange", "java.util.Arrays.fill");
  private static final Set<TypeKind> NUMBERS = Set.of(TypeKind.INT, TypeKind.LONG, TypeKind.SHORT, TypeKind.BYTE, TypeKind.CHAR, TypeKind.BOOLEAN);
  private static final Due due = new Due();

  private final Trees trees;
  private final CompilationUnitTree unit;
  private final Map<Element, Set<Element>> calls = new HashMap<>();
  private int classes = 0;

  private LanguageTest(Trees trees, CompilationUnitTree unit) {
    this.trees = trees;
    this.unit = unit;
  }

  public static void main(String[] args) throws Exception {
    JavaCompiler javac = ToolProvider.getSystemJavaCompiler();
    try (StandardJavaFileManager files = javac.getStandardFileManager(null, null, null)) {
      JavacTask task = (JavacTask) javac.getTask(null, files, null, List.of("-proc:none"), null, files.getJavaFileObjects(CLASS));
      CompilationUnitTree unit = task.parse().iterator().next();
      task.analyze();
      LanguageTest rules = new LanguageTest(Trees.instance(task), unit);
      rules.scan(unit, null);
      rules.end();
    }
    due.end();
  }

  private void end() {
    rule(2, "one class of the file's own level", unit.getTypeDecls().size() == 1);
    rule(11, "at most twelve classes", classes <= 12);
    for (Element method : calls.keySet()) rule(11, method + " opens at most eight calls", depth(method, 1) <= 8);
  }

  /** How many calls stand open at once at most; a method that comes back to itself goes beyond every bound. */
  private int depth(Element method, int open) {
    int most = open;
    for (Element called : calls.getOrDefault(method, Set.of())) {
      if (open < 20) most = Math.max(most, depth(called, open + 1));
    }
    return most;
  }

  private void rule(int number, String what, boolean holds) {
    due.holds("LANGUAGE.md, rule " + number + ": " + what, holds);
  }

  private String here(Tree tree) {
    long line = unit.getLineMap().getLineNumber(trees.getSourcePositions().getStartPosition(unit, tree));
    return "line " + line + " (" + tree.getKind() + ")";
  }

  private Element element(Tree tree) {
    return trees.getElement(new TreePath(getCurrentPath(), tree));
  }

  private static boolean isOwn(Element of) {
    for (Element e = of; e != null; e = e.getEnclosingElement()) {
      if (e instanceof TypeElement type && type.getQualifiedName().contentEquals("CutListDesk")) return true;
    }
    return false;
  }

  // ---- what is left out

  @Override public Void scan(Tree tree, Void none) {
    if (tree != null && LEFT_OUT.contains(tree.getKind())) rule(6, here(tree) + " is left out", false);
    return super.scan(tree, none);
  }

  @Override public Void visitImport(ImportTree tree, Void none) {
    rule(4, tree.getQualifiedIdentifier() + " may be imported", !tree.isStatic() && IMPORTS.contains(tree.getQualifiedIdentifier().toString()));
    return super.visitImport(tree, none);
  }

  @Override public Void visitClass(ClassTree tree, Void none) {
    classes++;
    Tree outside = getCurrentPath().getParentPath().getLeaf();
    boolean isOuter = outside == unit;
    rule(2, here(tree) + " stands in a class, not in a method", isOuter || outside instanceof ClassTree);
    Set<Modifier> as = tree.getModifiers().getFlags();
    if (!isOuter) rule(2, tree.getSimpleName() + " is static and not open", as.contains(Modifier.STATIC) && !as.contains(Modifier.PUBLIC));
    int fields = 0;
    for (Tree member : tree.getMembers()) {
      rule(5, here(member) + " is no initialiser block", !(member instanceof BlockTree));
      if (member instanceof VariableTree field && !field.getModifiers().getFlags().contains(Modifier.STATIC)) fields++;
    }
    rule(11, tree.getSimpleName() + " has some twenty fields at most", fields <= 20);
    return super.visitClass(tree, none);
  }

  // ---- types and the library

  private boolean isLeft(TypeMirror type) {
    if (type.getKind() == TypeKind.ARRAY) {
      TypeMirror of = ((ArrayType) type).getComponentType();
      return of instanceof ArrayType row ? NUMBERS.contains(row.getComponentType().getKind()) : isLeft(of);
    }
    return NUMBERS.contains(type.getKind()) || type.toString().equals("java.lang.String") || type.toString().startsWith("CutListDesk.");
  }

  @Override public Void visitVariable(VariableTree tree, Void none) {
    Element variable = trees.getElement(getCurrentPath());
    rule(3, here(tree) + " has a type that is left", isLeft(variable.asType()));
    if (variable.getKind() == ElementKind.FIELD && variable.getModifiers().contains(Modifier.STATIC)) {
      boolean isWritten = tree.getInitializer() instanceof NewArrayTree row && row.getInitializers() != null;
      boolean isRow = variable.asType().getKind() == TypeKind.ARRAY;
      rule(5, tree.getName() + " is a constant", variable.getModifiers().contains(Modifier.FINAL) && tree.getInitializer() != null);
      rule(5, tree.getName() + " is a number or a row written out", isRow ? isWritten : NUMBERS.contains(variable.asType().getKind()));
    }
    return super.visitVariable(tree, none);
  }

  @Override public Void visitMethodInvocation(MethodInvocationTree tree, Void none) {
    Element called = element(tree.getMethodSelect());
    String name = called.getEnclosingElement() + "." + called.getSimpleName();
    boolean isOfObject = name.equals("java.lang.Object.<init>");
    rule(4, here(tree) + " calls " + name, isOwn(called) || isOfObject || LIBRARY.contains(name));
    if (isOwn(called)) noteCall(called);
    return super.visitMethodInvocation(tree, none);
  }

  @Override public Void visitMemberSelect(MemberSelectTree tree, Void none) {
    Element of = trees.getElement(getCurrentPath());
    boolean isField = of != null && of.getKind() == ElementKind.FIELD;
    rule(4, here(tree) + " is no field of the library", !isField || isOwn(of) || tree.getIdentifier().contentEquals("length"));
    return super.visitMemberSelect(tree, none);
  }

  private void noteCall(Element called) {
    TreePath at = getCurrentPath();
    while (at != null && !(at.getLeaf() instanceof MethodTree)) at = at.getParentPath();
    if (at != null) calls.computeIfAbsent(trees.getElement(at), m -> new HashSet<>()).add(called);
  }

  @Override public Void visitTypeCast(TypeCastTree tree, Void none) {
    rule(6, here(tree) + " makes a number of a number", NUMBERS.contains(trees.getTypeMirror(new TreePath(getCurrentPath(), tree.getType())).getKind()));
    return super.visitTypeCast(tree, none);
  }

  // ---- objects: the class makes them in constructors alone, so that no run of calls can fill the room

  private boolean isInConstructorOrField() {
    for (TreePath at = getCurrentPath(); at != null; at = at.getParentPath()) {
      if (at.getLeaf() instanceof MethodTree method) return method.getName().contentEquals("<init>");
    }
    return true;
  }

  @Override public Void visitNewClass(NewClassTree tree, Void none) {
    rule(12, here(tree) + " is made in a constructor", isInConstructorOrField());
    rule(2, here(tree) + " has no body of its own", tree.getClassBody() == null);
    noteCall(element(tree));
    return super.visitNewClass(tree, none);
  }

  @Override public Void visitNewArray(NewArrayTree tree, Void none) {
    rule(12, here(tree) + " is made in a constructor", isInConstructorOrField());
    return super.visitNewArray(tree, none);
  }

  // ---- methods, loops, divisors

  @Override public Void visitMethod(MethodTree tree, Void none) {
    long from = unit.getLineMap().getLineNumber(trees.getSourcePositions().getStartPosition(unit, tree));
    long to = unit.getLineMap().getLineNumber(Math.max(0, trees.getSourcePositions().getEndPosition(unit, tree)));
    rule(11, tree.getName() + " takes at most seven", tree.getParameters().size() <= 7);
    rule(11, tree.getName() + " is short", to - from < 60);
    return super.visitMethod(tree, none);
  }

  private void ends(Tree loop, ExpressionTree condition) {
    rule(9, here(loop) + " has an end", condition != null && !condition.toString().equals("true") && !condition.toString().equals("(true)"));
  }

  @Override public Void visitForLoop(ForLoopTree tree, Void none) {
    ends(tree, tree.getCondition());
    return super.visitForLoop(tree, none);
  }

  @Override public Void visitWhileLoop(WhileLoopTree tree, Void none) {
    ends(tree, tree.getCondition());
    return super.visitWhileLoop(tree, none);
  }

  @Override public Void visitDoWhileLoop(DoWhileLoopTree tree, Void none) {
    ends(tree, tree.getCondition());
    return super.visitDoWhileLoop(tree, none);
  }

  @Override public Void visitBinary(BinaryTree tree, Void none) {
    if (tree.getKind() == Tree.Kind.DIVIDE || tree.getKind() == Tree.Kind.REMAINDER) {
      rule(7, here(tree) + " has a divisor that was looked at", isConstant(tree.getRightOperand()) || isLookedAt(tree.getRightOperand().toString()));
    }
    TypeMirror left = trees.getTypeMirror(new TreePath(getCurrentPath(), tree.getLeftOperand()));
    rule(10, here(tree) + " joins no texts", tree.getKind() != Tree.Kind.PLUS || NUMBERS.contains(left.getKind()));
    return super.visitBinary(tree, none);
  }

  private boolean isConstant(ExpressionTree divisor) {
    if (divisor instanceof LiteralTree literal) return !Integer.valueOf(0).equals(literal.getValue());
    Object value = element(divisor) instanceof VariableElement constant ? constant.getConstantValue() : null;
    return value != null && !Integer.valueOf(0).equals(value);
  }

  private boolean isLookedAt(String divisor) {
    for (TreePath at = getCurrentPath(); at != null; at = at.getParentPath()) {
      Tree leaf = at.getLeaf();
      String asked = leaf instanceof ConditionalExpressionTree c ? c.getCondition().toString() : leaf instanceof IfTree i ? i.getCondition().toString() : "";
      if (asked.matches(".*\\b" + divisor + " (==|!=|>) 0\\b.*")) return true;
    }
    return false;
  }

  @Override public Void visitArrayAccess(ArrayAccessTree tree, Void none) {
    Element row = element(tree.getExpression());
    Tree user = getCurrentPath().getParentPath().getLeaf();
    boolean isChanged = user instanceof AssignmentTree a && a.getVariable() == tree
        || user instanceof CompoundAssignmentTree c && c.getVariable() == tree;
    rule(5, here(tree) + " changes no constant", !isChanged || !row.getModifiers().contains(Modifier.STATIC));
    return super.visitArrayAccess(tree, none);
  }
}
