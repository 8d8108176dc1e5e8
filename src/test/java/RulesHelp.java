import com.sun.source.tree.AssertTree;
import com.sun.source.tree.BinaryTree;
import com.sun.source.tree.BlockTree;
import com.sun.source.tree.CatchTree;
import com.sun.source.tree.ClassTree;
import com.sun.source.tree.CompilationUnitTree;
import com.sun.source.tree.CompoundAssignmentTree;
import com.sun.source.tree.DoWhileLoopTree;
import com.sun.source.tree.ExpressionTree;
import com.sun.source.tree.ForLoopTree;
import com.sun.source.tree.ImportTree;
import com.sun.source.tree.LambdaExpressionTree;
import com.sun.source.tree.LiteralTree;
import com.sun.source.tree.MemberReferenceTree;
import com.sun.source.tree.MethodInvocationTree;
import com.sun.source.tree.MethodTree;
import com.sun.source.tree.NewClassTree;
import com.sun.source.tree.SynchronizedTree;
import com.sun.source.tree.ThrowTree;
import com.sun.source.tree.Tree;
import com.sun.source.tree.TryTree;
import com.sun.source.tree.VariableTree;
import com.sun.source.tree.WhileLoopTree;
import com.sun.source.util.JavacTask;
import com.sun.source.util.TreePath;
import com.sun.source.util.TreePathScanner;
import com.sun.source.util.Trees;
import java.io.IOException;
import java.io.UncheckedIOException;
import java.net.URI;
import java.nio.file.Files;
import java.nio.file.Path;
import java.util.ArrayList;
import java.util.HashMap;
import java.util.HashSet;
import java.util.List;
import java.util.Map;
import java.util.Set;
import java.util.TreeSet;
import javax.lang.model.element.Element;
import javax.lang.model.element.ElementKind;
import javax.lang.model.element.Modifier;
import javax.lang.model.type.ArrayType;
import javax.lang.model.type.TypeKind;
import javax.lang.model.type.TypeMirror;
import javax.tools.JavaFileObject;
import javax.tools.SimpleJavaFileObject;
import javax.tools.ToolProvider;

/** Reads a source as the compiler does, and tells where it breaks a rule of LANGUAGE.md. */
public final class RulesHelp extends TreePathScanner<Void, Void> {
  private static final int MOST_CLASSES = 12;
  private static final int MOST_FIELDS = 20;
  private static final int MOST_PARAMETERS = 7;
  private static final int MOST_LINES = 60;
  private static final int MOST_DEPTH = 8;

  private static final Set<String> IMPORTS = Set.of("java.util.Arrays", "java.util.ArrayList", "java.util.List",
      "java.util.Iterator", "java.util.NoSuchElementException");
  private static final Set<String> THROWN = Set.of("java.lang.IllegalStateException",
      "java.lang.IllegalArgumentException", "java.lang.IndexOutOfBoundsException", "java.lang.ArithmeticException",
      "java.lang.UnsupportedOperationException", "java.util.NoSuchElementException", "java.lang.RuntimeException");
  /** Those that the machine never throws, nor one that is below. */
  private static final Set<String> CAUGHT = Set.of("java.lang.IllegalStateException",
      "java.lang.IllegalArgumentException", "java.lang.UnsupportedOperationException", "java.util.NoSuchElementException");
  private static final Set<String> TYPES = Set.of("java.lang.String", "java.lang.StringBuilder", "java.lang.Integer",
      "java.util.ArrayList", "java.util.List", "java.util.Iterator", "java.lang.Iterable", "java.lang.Comparable");
  private static final Set<String> TEXTS = Set.of("length()", "charAt(int)", "isEmpty()", "equals(java.lang.Object)",
      "indexOf(int)", "substring(int)", "substring(int,int)", "toCharArray()", "String(char[])");
  private static final Set<String> BUILDERS = Set.of("StringBuilder()", "append(char)", "append(java.lang.String)",
      "append(int)", "charAt(int)", "setCharAt(int,char)", "setLength(int)", "deleteCharAt(int)", "reverse()",
      "length()", "toString()");
  private static final Set<String> LISTS = Set.of("ArrayList", "add", "get", "set", "remove", "size", "isEmpty", "clear", "of",
      "iterator", "hasNext", "next", "compareTo");
  private static final Set<String> ARRAYS = Set.of("copyOf", "copyOfRange", "fill");

  private final CompilationUnitTree unit;
  private final Trees trees;
  private final TreeSet<String> faults = new TreeSet<>();
  private final Set<String> face = faceOfDocument();
  private final Map<Element, Set<Element>> calls = new HashMap<>();
  private int classes;

  private RulesHelp(CompilationUnitTree itsUnit, Trees itsTrees) {
    unit = itsUnit;
    trees = itsTrees;
  }

  /** What breaks a rule: "rule 4: .." */
  public static List<String> faults(String source) {
    JavaFileObject file = new SimpleJavaFileObject(URI.create("string:///Indexkeeper.java"), JavaFileObject.Kind.SOURCE) {
      @Override
      public CharSequence getCharContent(boolean ignore) {
        return source;
      }
    };
    JavacTask task = (JavacTask) ToolProvider.getSystemJavaCompiler()
        .getTask(null, null, null, List.of("-proc:none", "-XDshould-stop.ifError=FLOW"), null, List.of(file));
    try {
      CompilationUnitTree unit = task.parse().iterator().next();
      task.analyze();
      RulesHelp help = new RulesHelp(unit, Trees.instance(task));
      help.scan(new TreePath(unit), null);
      help.lookAtCalls();
      help.need(help.classes <= MOST_CLASSES, 11, "classes: " + help.classes, unit);
      help.need(source.chars().allMatch(c -> c >= 1 && c <= 127) && !source.contains("\\u"), 4, "a sign", unit);
      return new ArrayList<>(help.faults);
    } catch (IOException e) {
      throw new UncheckedIOException(e);
    }
  }

  private static Set<String> faceOfDocument() {
    Set<String> all = new HashSet<>();
    try {
      boolean isFace = false;
      for (String line : Files.readAllLines(Path.of("../shared/DOC.md"))) {
        isFace = isFace ? !line.startsWith("```") : line.startsWith("```java");
        if (isFace && line.startsWith("    public")) {
          all.add(line.substring(0, line.indexOf('(')).replaceAll(".* ", ""));
        }
      }
    } catch (IOException e) {
      throw new UncheckedIOException(e);
    }
    return all;
  }

  private void need(boolean isGood, int rule, String what, Tree at) {
    if (!isGood) {
      faults.add("rule " + rule + ": " + what + " in line " + lineOf(trees.getSourcePositions().getStartPosition(unit, at)));
    }
  }

  private long lineOf(long position) {
    return position < 0 ? 0 : unit.getLineMap().getLineNumber(position);
  }

  private Element here() {
    return trees.getElement(getCurrentPath());
  }

  private Element elementOf(Tree tree) {
    return trees.getElement(new TreePath(getCurrentPath(), tree));
  }

  private TypeMirror typeOf(Tree tree) {
    return trees.getTypeMirror(new TreePath(getCurrentPath(), tree));
  }

  private boolean isText(Tree tree) {
    TypeMirror type = typeOf(tree);
    return type != null && type.toString().equals("java.lang.String");
  }

  private static boolean isOwn(Element element) {
    return element != null && element.toString().startsWith("Indexkeeper");
  }

  private boolean isTop() {
    return getCurrentPath().getParentPath().getLeaf() == unit.getTypeDecls().get(0);
  }

  private static boolean isOpen(Set<Modifier> how) {
    return how.contains(Modifier.PUBLIC) || how.contains(Modifier.PROTECTED);
  }

  // ---- classes, methods and fields

  @Override
  public Void visitImport(ImportTree tree, Void none) {
    need(!tree.isStatic() && IMPORTS.contains(tree.getQualifiedIdentifier().toString()), 4, "an import", tree);
    return super.visitImport(tree, none);
  }

  @Override
  public Void visitClass(ClassTree tree, Void none) {
    classes++;
    Set<Modifier> how = tree.getModifiers().getFlags();
    Tree parent = getCurrentPath().getParentPath().getLeaf();
    if (parent == unit) {
      need(unit.getTypeDecls().size() == 1 && how.contains(Modifier.PUBLIC) && how.contains(Modifier.FINAL), 1, "the class", tree);
    } else if (parent instanceof ClassTree) {
      boolean isStatic = how.contains(Modifier.STATIC) || tree.getKind() != Tree.Kind.CLASS;
      need(!isOpen(how), 1, "a class that is shown", tree);
      need(isStatic, 2, "an inner class", tree);
    } else {
      need(tree.getSimpleName().length() == 0, 2, "a local class", tree);
    }
    TypeMirror above = tree.getExtendsClause() == null ? null : typeOf(tree.getExtendsClause());
    need(above == null || !isThrowable(above.toString()), 6, "an exception class", tree);
    int fields = 0;
    for (Tree member : tree.getMembers()) {
      boolean isField = member instanceof VariableTree v && !v.getModifiers().getFlags().contains(Modifier.STATIC);
      fields += isField ? 1 : 0;
    }
    need(fields <= MOST_FIELDS, 11, "fields: " + fields, tree);
    return super.visitClass(tree, none);
  }

  private static boolean isThrowable(String name) {
    return name.endsWith("Exception") || name.endsWith("Error") || name.endsWith("Throwable");
  }

  @Override
  public Void visitMethod(MethodTree tree, Void none) {
    String name = tree.getName().toString();
    Set<Modifier> how = tree.getModifiers().getFlags();
    boolean isMaker = name.equals("<init>");
    if (isTop()) {
      String seen = isMaker ? "Indexkeeper" : name;
      boolean isShown = how.contains(Modifier.PUBLIC);
      need(isShown || how.contains(Modifier.PRIVATE), 1, "a method that is seen", tree);
      need(isMaker && !isShown || isShown == face.contains(seen), 1, "the name " + seen, tree);
    }
    boolean isOfObject = Set.of("equals", "hashCode", "toString", "finalize", "clone").contains(name);
    need(!isOfObject, 6, name, tree);
    need(!how.contains(Modifier.SYNCHRONIZED) && !how.contains(Modifier.NATIVE), 6, "a modifier", tree);
    need(tree.getParameters().size() <= MOST_PARAMETERS, 11, "parameters of " + name, tree);
    long from = lineOf(trees.getSourcePositions().getStartPosition(unit, tree));
    long to = lineOf(trees.getSourcePositions().getEndPosition(unit, tree));
    need(to - from < MOST_LINES, 11, "lines of " + name, tree);
    calls.computeIfAbsent(here(), e -> new HashSet<>());
    return super.visitMethod(tree, none);
  }

  @Override
  public Void visitVariable(VariableTree tree, Void none) {
    Element variable = here();
    TypeMirror type = variable == null ? null : variable.asType();
    Set<Modifier> how = tree.getModifiers().getFlags();
    boolean isCaught = variable != null && variable.getKind() == ElementKind.EXCEPTION_PARAMETER;
    need(isCaught || type != null && isGoodType(type), 3, "the type " + type, tree);
    boolean isField = getCurrentPath().getParentPath().getLeaf() instanceof ClassTree;
    if (isField && isTop()) {
      need(how.contains(Modifier.PRIVATE), 1, "a field that is seen", tree);
    }
    if (isField && how.contains(Modifier.STATIC)) {
      boolean isConstant = how.contains(Modifier.FINAL) && tree.getInitializer() != null;
      String bare = type == null ? "" : type.toString().replace("[]", "");
      need(isConstant && Set.of("int", "long", "boolean", "char", "byte", "java.lang.String").contains(bare), 5, "static state", tree);
    }
    return super.visitVariable(tree, none);
  }

  private static boolean isGoodType(TypeMirror type) {
    if (type.getKind() == TypeKind.ARRAY) {
      TypeMirror inside = ((ArrayType) type).getComponentType();
      if (inside.getKind() == TypeKind.ARRAY) {
        return ((ArrayType) inside).getComponentType().getKind().isPrimitive();
      }
      return isGoodType(inside);
    }
    String bare = type.toString().replaceAll("<.*", "");
    boolean isOwn = bare.startsWith("Indexkeeper") || type.getKind() == TypeKind.TYPEVAR;
    return type.getKind().isPrimitive() || isOwn || TYPES.contains(bare);
  }

  @Override
  public Void visitBlock(BlockTree tree, Void none) {
    need(!tree.isStatic(), 5, "a static block", tree);
    return super.visitBlock(tree, none);
  }

  // ---- calls

  @Override
  public Void visitMethodInvocation(MethodInvocationTree tree, Void none) {
    lookAtCall(elementOf(tree.getMethodSelect()), tree);
    return super.visitMethodInvocation(tree, none);
  }

  @Override
  public Void visitNewClass(NewClassTree tree, Void none) {
    lookAtCall(here(), tree);
    return super.visitNewClass(tree, none);
  }

  private void lookAtCall(Element called, Tree tree) {
    if (called == null || called.toString().equals("Object()")) {
      return;
    }
    Element caller = callerOf();
    if (isOwn(called.getEnclosingElement())) {
      calls.computeIfAbsent(caller, e -> new HashSet<>()).add(called);
      return;
    }
    // the compiler finds some of the builder's methods in the class above it
    String owner = called.getEnclosingElement().toString().replace("AbstractStringBuilder", "StringBuilder");
    need(isGoodCall(owner, called.toString(), called.getSimpleName().toString()), 4, owner + "." + called, tree);
    need(!owner.equals("java.lang.System") || called.getSimpleName().contentEquals("arraycopy"), 13, "" + called, tree);
  }

  private Element callerOf() {
    TreePath path = getCurrentPath();
    while (path.getLeaf() != unit && !(path.getLeaf() instanceof MethodTree)) {
      path = path.getParentPath();
    }
    return trees.getElement(path);
  }

  private static boolean isGoodCall(String owner, String call, String name) {
    switch (owner) {
      case "java.lang.String":
        return TEXTS.contains(call);
      case "java.lang.StringBuilder":
        return BUILDERS.contains(call);
      case "java.lang.System":
        return name.equals("arraycopy");
      case "java.util.Arrays":
        return ARRAYS.contains(name);
      case "java.lang.Integer":
      case "java.lang.Long":
      case "java.lang.Math":
        return !name.endsWith("Exact") && !call.contains("double") && !call.contains("String");
      case "java.util.ArrayList":
      case "java.util.List":
      case "java.util.Iterator":
      case "java.lang.Iterable":
      case "java.lang.Comparable":
        return LISTS.contains(name);
      default:
        return THROWN.contains(owner) && (call.endsWith("()") || call.endsWith("(java.lang.String)"))
            && owner.endsWith("." + call.substring(0, call.indexOf('(')));
    }
  }

  /** How deep the calls of the class are, one in the other; and that none comes back to itself. */
  private void lookAtCalls() {
    Map<Element, Integer> depths = new HashMap<>();
    for (Element method : calls.keySet()) {
      int depth = depthOf(method, depths, new HashSet<>());
      need(depth <= MOST_DEPTH, 11, "calls of " + method + " are " + depth + " deep", unit);
    }
  }

  private int depthOf(Element method, Map<Element, Integer> depths, Set<Element> open) {
    if (depths.containsKey(method)) {
      return depths.get(method);
    }
    if (!open.add(method)) {
      need(false, 8, "a recursion of " + method, unit);
      return 0;
    }
    int most = 0;
    for (Element called : calls.getOrDefault(method, Set.of())) {
      most = Math.max(most, depthOf(called, depths, open));
    }
    open.remove(method);
    depths.put(method, most + 1);
    return most + 1;
  }

  // ---- statements and expressions

  @Override
  public Void visitThrow(ThrowTree tree, Void none) {
    boolean isNew = tree.getExpression() instanceof NewClassTree;
    need(isNew && THROWN.contains("" + typeOf(tree.getExpression())), 6, "a throw", tree);
    if (isNew) {
      for (ExpressionTree text : ((NewClassTree) tree.getExpression()).getArguments()) {
        need(text instanceof LiteralTree, 6, "a text of a throw", tree);
      }
    }
    Element caller = callerOf();
    need(caller == null || caller.getKind() != ElementKind.CONSTRUCTOR, 6, "a throw in a constructor", tree);
    return super.visitThrow(tree, none);
  }

  @Override
  public Void visitTry(TryTree tree, Void none) {
    need(tree.getFinallyBlock() == null && tree.getResources().isEmpty(), 6, "a try", tree);
    return super.visitTry(tree, none);
  }

  @Override
  public Void visitCatch(CatchTree tree, Void none) {
    need(CAUGHT.contains("" + typeOf(tree.getParameter().getType())), 6, "a catch", tree);
    return super.visitCatch(tree, none);
  }

  @Override
  public Void visitAssert(AssertTree tree, Void none) {
    need(false, 6, "an assert", tree);
    return super.visitAssert(tree, none);
  }

  @Override
  public Void visitSynchronized(SynchronizedTree tree, Void none) {
    need(false, 6, "a synchronized", tree);
    return super.visitSynchronized(tree, none);
  }

  @Override
  public Void visitLambdaExpression(LambdaExpressionTree tree, Void none) {
    need(false, 2, "a lambda", tree);
    return super.visitLambdaExpression(tree, none);
  }

  @Override
  public Void visitMemberReference(MemberReferenceTree tree, Void none) {
    need(false, 2, "a method reference", tree);
    return super.visitMemberReference(tree, none);
  }

  @Override
  public Void visitBinary(BinaryTree tree, Void none) {
    boolean isTexts = isText(tree.getLeftOperand()) || isText(tree.getRightOperand());
    boolean isSame = tree.getKind() == Tree.Kind.EQUAL_TO || tree.getKind() == Tree.Kind.NOT_EQUAL_TO;
    boolean isWithNull = tree.getLeftOperand().getKind() == Tree.Kind.NULL_LITERAL
        || tree.getRightOperand().getKind() == Tree.Kind.NULL_LITERAL;
    need(!isTexts || tree.getKind() != Tree.Kind.PLUS, 10, "texts joined by +", tree);
    need(!isTexts || !isSame || isWithNull, 6, "texts compared by ==", tree);
    return super.visitBinary(tree, none);
  }

  @Override
  public Void visitCompoundAssignment(CompoundAssignmentTree tree, Void none) {
    need(!isText(tree.getVariable()), 10, "texts joined by +=", tree);
    return super.visitCompoundAssignment(tree, none);
  }

  private void needEnd(ExpressionTree condition, Tree loop) {
    boolean isEndless = condition == null || condition.toString().replaceAll("[()]", "").equals("true");
    need(!isEndless, 9, "a loop", loop);
  }

  @Override
  public Void visitWhileLoop(WhileLoopTree tree, Void none) {
    needEnd(tree.getCondition(), tree);
    return super.visitWhileLoop(tree, none);
  }

  @Override
  public Void visitDoWhileLoop(DoWhileLoopTree tree, Void none) {
    needEnd(tree.getCondition(), tree);
    return super.visitDoWhileLoop(tree, none);
  }

  @Override
  public Void visitForLoop(ForLoopTree tree, Void none) {
    needEnd(tree.getCondition(), tree);
    return super.visitForLoop(tree, none);
  }
}
