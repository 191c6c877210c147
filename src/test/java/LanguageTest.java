import com.sun.source.tree.AssertTree;
import com.sun.source.tree.BinaryTree;
import com.sun.source.tree.BlockTree;
import com.sun.source.tree.ClassTree;
import com.sun.source.tree.CompilationUnitTree;
import com.sun.source.tree.DoWhileLoopTree;
import com.sun.source.tree.EnhancedForLoopTree;
import com.sun.source.tree.ForLoopTree;
import com.sun.source.tree.IdentifierTree;
import com.sun.source.tree.ImportTree;
import com.sun.source.tree.LambdaExpressionTree;
import com.sun.source.tree.MemberReferenceTree;
import com.sun.source.tree.MemberSelectTree;
import com.sun.source.tree.MethodInvocationTree;
import com.sun.source.tree.MethodTree;
import com.sun.source.tree.NewArrayTree;
import com.sun.source.tree.NewClassTree;
import com.sun.source.tree.SynchronizedTree;
import com.sun.source.tree.ThrowTree;
import com.sun.source.tree.Tree;
import com.sun.source.tree.TryTree;
import com.sun.source.tree.TypeCastTree;
import com.sun.source.tree.VariableTree;
import com.sun.source.tree.WhileLoopTree;
import com.sun.source.util.JavacTask;
import com.sun.source.util.SourcePositions;
import com.sun.source.util.TreePathScanner;
import com.sun.source.util.Trees;
import java.io.File;
import java.util.HashMap;
import java.util.HashSet;
import java.util.List;
import java.util.Map;
import java.util.Set;
import java.util.TreeSet;
import javax.lang.model.element.Element;
import javax.lang.model.element.ElementKind;
import javax.lang.model.element.Modifier;
import javax.tools.JavaCompiler;
import javax.tools.StandardJavaFileManager;
import javax.tools.ToolProvider;

/**
 * The rules of LANGUAGE.md, as far as they can be seen in the tree that javac makes of the class. It
 * is stricter than they are where the class needs less: no throw, no text, no while, no recursion.
 */
public final class LanguageTest extends TreePathScanner<Void, Void> {
  private static final File SOURCE = new File("src/main/java/AngleChains.java");
  private static final Set<String> LIBRARY = Set.of(
    "java.util.Arrays.fill", "java.lang.System.arraycopy", "java.lang.Math.min", "java.lang.Math.max",
    "java.lang.Math.floorDiv", "java.lang.Integer.bitCount", "java.lang.Integer.lowestOneBit",
    "java.lang.Integer.numberOfTrailingZeros", "java.lang.Integer.numberOfLeadingZeros");
  private static final Set<String> TYPES = Set.of(
    "int", "long", "boolean", "int[]", "long[]", "long[][]", "AngleChains.Figure", "AngleChains.Cases",
    "AngleChains.Rows", "AngleChains.Deduction");

  private final CompilationUnitTree unit;
  private final Trees trees;
  private final Map<Element, Set<Element>> calls = new HashMap<>();
  private final Set<String> publicMethods = new HashSet<>();
  private final Set<String> privateMethods = new HashSet<>();
  private final TreeSet<String> odd = new TreeSet<>();
  private Element method;
  private int classes = 0;

  private LanguageTest(CompilationUnitTree unit, Trees trees) {
    this.unit = unit;
    this.trees = trees;
  }

  private long line(long position) {
    return unit.getLineMap().getLineNumber(position);
  }

  private void refuse(int rule, Tree tree, String what) {
    odd.add("rule " + rule + ", line " + line(trees.getSourcePositions().getStartPosition(unit, tree)) + ": " + what);
  }

  private Element element() {
    return trees.getElement(getCurrentPath());
  }

  @Override
  public Void visitImport(ImportTree tree, Void none) {
    if (!tree.getQualifiedIdentifier().toString().equals("java.util.Arrays")) refuse(4, tree, "import");
    return null;
  }

  @Override
  public Void visitClass(ClassTree tree, Void none) {
    classes++;
    Set<Modifier> flags = tree.getModifiers().getFlags();
    boolean isOuter = tree.getSimpleName().contentEquals("AngleChains");
    if (isOuter != flags.contains(Modifier.PUBLIC)) refuse(1, tree, "a public class");
    if (!isOuter && !flags.contains(Modifier.STATIC)) refuse(1, tree, "a class inside that is not static");
    int fields = 0;
    for (Tree member : tree.getMembers()) {
      if (member instanceof VariableTree && !((VariableTree) member).getModifiers().getFlags().contains(Modifier.STATIC)) fields++;
      if (member instanceof BlockTree) refuse(5, member, "an initialiser block");
    }
    if (fields > 20) refuse(11, tree, fields + " fields");
    return super.visitClass(tree, none);
  }

  @Override
  public Void visitVariable(VariableTree tree, Void none) {
    Element variable = element();
    if (!TYPES.contains(variable.asType().toString())) refuse(3, tree, "type " + variable.asType());
    if (variable.getKind() == ElementKind.FIELD && variable.getModifiers().contains(Modifier.STATIC)) {
      if (!variable.getModifiers().contains(Modifier.FINAL)) refuse(5, tree, "a static field that is not final");
      boolean isWrittenOut = tree.getInitializer() instanceof NewArrayTree && ((NewArrayTree) tree.getInitializer()).getInitializers() != null;
      if (variable.asType().toString().endsWith("]") && !isWrittenOut) refuse(5, tree, "a static array that is not written out");
    }
    return super.visitVariable(tree, none);
  }

  @Override
  public Void visitMethod(MethodTree tree, Void none) {
    Element before = method;
    method = element();
    calls.putIfAbsent(method, new HashSet<>());
    Set<Modifier> flags = tree.getModifiers().getFlags();
    if (flags.contains(Modifier.PUBLIC)) publicMethods.add(tree.getName().toString());
    else if (method.getKind() == ElementKind.METHOD) privateMethods.add(tree.getName().toString());
    if (tree.getParameters().size() > 7) refuse(11, tree, "more than seven parameters");
    SourcePositions places = trees.getSourcePositions();
    long lines = line(places.getEndPosition(unit, tree)) - line(places.getStartPosition(unit, tree)) + 1;
    if (lines > 60) refuse(11, tree, "a method of " + lines + " lines");
    super.visitMethod(tree, none);
    method = before;
    return null;
  }

  @Override
  public Void visitMethodInvocation(MethodInvocationTree tree, Void none) {
    Element called = element();
    String owner = called.getEnclosingElement().toString();
    if (owner.startsWith("AngleChains")) {
      if (method != null) calls.get(method).add(called);
    } else if (called.getKind() == ElementKind.METHOD && !LIBRARY.contains(owner + "." + called.getSimpleName())) {
      refuse(4, tree, "a call of " + owner + "." + called.getSimpleName());
    }
    return super.visitMethodInvocation(tree, none);
  }

  @Override
  public Void visitMemberSelect(MemberSelectTree tree, Void none) {
    Element member = element();
    if (member != null && member.getKind() == ElementKind.FIELD && !member.getSimpleName().contentEquals("length")
      && !member.getEnclosingElement().toString().startsWith("AngleChains")) refuse(4, tree, "a field of the library");
    return super.visitMemberSelect(tree, none);
  }

  @Override
  public Void visitNewArray(NewArrayTree tree, Void none) {
    if (method != null) refuse(12, tree, "an array made by a call");
    return super.visitNewArray(tree, none);
  }

  @Override
  public Void visitNewClass(NewClassTree tree, Void none) {
    if (method != null && method.getKind() != ElementKind.CONSTRUCTOR) refuse(12, tree, "an object made by a call");
    return super.visitNewClass(tree, none);
  }

  @Override
  public Void visitForLoop(ForLoopTree tree, Void none) {
    if (tree.getCondition() == null || tree.getUpdate().isEmpty()) refuse(9, tree, "a loop without an end");
    return super.visitForLoop(tree, none);
  }

  @Override
  public Void visitIdentifier(IdentifierTree tree, Void none) {
    if (tree.getName().contentEquals("String") || tree.getName().contentEquals("Object")) refuse(3, tree, "type " + tree);
    return super.visitIdentifier(tree, none);
  }

  @Override
  public Void visitTypeCast(TypeCastTree tree, Void none) {
    if (!tree.getType().toString().equals("long")) refuse(7, tree, "a cast");
    return super.visitTypeCast(tree, none);
  }

  @Override
  public Void visitBinary(BinaryTree tree, Void none) {
    boolean divides = tree.getKind() == Tree.Kind.DIVIDE || tree.getKind() == Tree.Kind.REMAINDER;
    if (divides && !tree.getRightOperand().toString().equals("lead")) refuse(7, tree, "a divisor that is no lead of a stair");
    return super.visitBinary(tree, none);
  }

  @Override
  public Void scan(Tree tree, Void none) {
    if (tree instanceof ThrowTree || tree instanceof TryTree || tree instanceof AssertTree || tree instanceof SynchronizedTree) {
      refuse(6, tree, "exceptions and their like");
    }
    if (tree instanceof LambdaExpressionTree || tree instanceof MemberReferenceTree) refuse(2, tree, "a function as a value");
    if (tree instanceof WhileLoopTree || tree instanceof DoWhileLoopTree || tree instanceof EnhancedForLoopTree) {
      refuse(9, tree, "a loop that does not count");
    }
    return super.scan(tree, none);
  }

  /** How many calls stand open at once below this one, with itself; no method may come again in it. */
  private int depth(Element top, Set<Element> open) {
    if (!open.add(top)) {
      odd.add("rule 8: " + top + " calls itself");
      return 0;
    }
    int deepest = 0;
    for (Element called : calls.getOrDefault(top, Set.of())) deepest = Math.max(deepest, depth(called, open));
    open.remove(top);
    return deepest + 1;
  }

  private void ends() {
    Check.sentence("LANGUAGE.md 11", "calls that are no recursion go at most eight deep");
    for (Element top : calls.keySet()) {
      int depth = depth(top, new HashSet<>());
      Check.due("calls below " + top + ", " + depth + ", at most eight", depth <= 8, true);
    }
    Check.sentence("LANGUAGE.md 11", "the file has at most some twelve classes");
    Check.due("at most twelve classes", classes <= 12, true);
    Check.sentence("LANGUAGE.md 1", "No private method bears the name of a public one");
    Set<String> both = new TreeSet<>(privateMethods);
    both.retainAll(publicMethods);
    Check.due("names", both.toString(), "[]");
    Check.sentence("LANGUAGE.md", "A landing outside these rules is sent back with the rule's number");
    Check.due("what is outside of them", odd.toString(), "[]");
  }

  public static void main(String[] args) throws Exception {
    JavaCompiler compiler = ToolProvider.getSystemJavaCompiler();
    try (StandardJavaFileManager files = compiler.getStandardFileManager(null, null, null)) {
      JavacTask task = (JavacTask) compiler.getTask(null, files, null, List.of("-proc:none"), null, files.getJavaFileObjects(SOURCE));
      CompilationUnitTree unit = task.parse().iterator().next();
      task.analyze();
      LanguageTest test = new LanguageTest(unit, Trees.instance(task));
      Check.sentence("LANGUAGE.md", "one file .. without a package line");
      Check.due("a package", unit.getPackageName() == null, true);
      Check.due("classes of the file", unit.getTypeDecls().size(), 1);
      test.scan(unit, null);
      Check.due("methods were seen", test.calls.size() > 50, true);
      test.ends();
    }
    Check.end();
  }
}
