import com.sun.source.tree.BinaryTree;
import com.sun.source.tree.ClassTree;
import com.sun.source.tree.ExpressionTree;
import com.sun.source.tree.ForLoopTree;
import com.sun.source.tree.IdentifierTree;
import com.sun.source.tree.ImportTree;
import com.sun.source.tree.LiteralTree;
import com.sun.source.tree.MethodInvocationTree;
import com.sun.source.tree.MethodTree;
import com.sun.source.tree.NewArrayTree;
import com.sun.source.tree.NewClassTree;
import com.sun.source.tree.Tree;
import com.sun.source.tree.TypeCastTree;
import com.sun.source.tree.VariableTree;
import java.io.IOException;
import java.lang.management.ManagementFactory;
import java.nio.file.Files;
import java.util.ArrayList;
import java.util.EnumSet;
import java.util.HashSet;
import java.util.List;
import java.util.Set;
import java.util.stream.Collectors;
import javax.lang.model.element.Element;
import javax.lang.model.element.ElementKind;
import javax.lang.model.element.ExecutableElement;
import javax.lang.model.element.Modifier;
import javax.lang.model.element.TypeElement;
import javax.lang.model.type.ArrayType;
import javax.lang.model.type.TypeKind;
import javax.lang.model.type.TypeMirror;

/**
 * LANGUAGE.md, rule by rule, as far as a program can see it. Where the class needs less than a rule leaves, the check
 * asks for the lesser: no library, no recursion, no loop but a counting one, nothing made after the constructor.
 */
public final class LanguageRules {
  private static Source source;
  private static TypeElement outer;

  public static void main(String[] args) throws IOException {
    source = Source.read();
    outer = (TypeElement) source.element(source.classes().get(0));
    file();
    rule1();
    rule2();
    rule3();
    rule4();
    rule5();
    rule6();
    rule8();
    rule9();
    rule10();
    rule11();
    rule12();
    room();
    Script.end();
  }

  private static void none(String rule, List<? extends Tree> found) {
    Script.due(rule, found.stream().map(source::place).collect(Collectors.toList()), List.of());
  }

  private static void file() throws IOException {
    try (var files = Files.list(Source.FILE.getParent())) {
      Script.due("files of the program", files.map(f -> f.getFileName().toString()).collect(Collectors.toList()),
          List.of("MobileCall.java"));
    }
    Script.due("no package line", source.unit.getPackageName() == null, true);
    Script.due("classes beside the public one", source.unit.getTypeDecls().size(), 1);
  }

  /** PublicFace looks at the members of the class itself; here the classes inside. */
  private static void rule1() {
    Set<String> names = new HashSet<>();
    for (Element member : outer.getEnclosedElements()) {
      if (member.getKind() == ElementKind.METHOD && member.getModifiers().contains(Modifier.PUBLIC)) {
        names.add(member.getSimpleName().toString());
      }
    }
    Script.due("rule 1: public methods", names.size(), 17);
    List<MethodTree> sameName = new ArrayList<>();
    for (MethodTree method : source.all(MethodTree.class)) {
      if (source.element(method).getEnclosingElement() != outer && names.contains(method.getName().toString())) {
        sameName.add(method);
      }
    }
    none("rule 1: no method inside with the name of a public one", sameName);
    List<ClassTree> shown = new ArrayList<>();
    for (ClassTree inside : inside()) {
      Set<Modifier> modifiers = source.element(inside).getModifiers();
      if (!modifiers.contains(Modifier.STATIC) || modifiers.contains(Modifier.PUBLIC)
          || modifiers.contains(Modifier.PROTECTED)) {
        shown.add(inside);
      }
    }
    none("rule 1: classes inside are static, private or package-visible", shown);
  }

  private static void rule2() {
    List<ClassTree> local = new ArrayList<>();
    for (ClassTree inside : inside()) {
      if (!(source.parent(inside) instanceof ClassTree)) {
        local.add(inside);
      }
    }
    none("rule 2: no local or anonymous class", local);
    without("rule 2", EnumSet.of(Tree.Kind.LAMBDA_EXPRESSION, Tree.Kind.MEMBER_REFERENCE));
  }

  private static void rule3() {
    List<Tree> others = new ArrayList<>();
    for (VariableTree variable : source.all(VariableTree.class)) {
      if (!isAllowed(source.element(variable).asType())) {
        others.add(variable);
      }
    }
    for (MethodTree method : source.all(MethodTree.class)) {
      TypeMirror type = ((ExecutableElement) source.element(method)).getReturnType();
      if (type.getKind() != TypeKind.VOID && !isAllowed(type)) {
        others.add(method);
      }
    }
    none("rule 3: int, long, boolean, own classes, rows of int and of own classes", others);
  }

  private static boolean isAllowed(TypeMirror type) {
    switch (type.getKind()) {
      case INT: return true;
      case LONG: return true;
      case BOOLEAN: return true;
      case DECLARED: return type.toString().startsWith("MobileCall.");
      case ARRAY: return ((ArrayType) type).getComponentType().getKind() != TypeKind.ARRAY
          && isAllowed(((ArrayType) type).getComponentType());
      default: return false;
    }
  }

  private static void rule4() {
    none("rule 4: no import", source.all(ImportTree.class));
    List<Tree> outside = new ArrayList<>();
    for (MethodInvocationTree call : source.all(MethodInvocationTree.class)) {
      if (source.isWritten(call) && !isOwn(source.element(call)) && !isSuperOfObject(call)) {
        outside.add(call);
      }
    }
    for (NewClassTree made : source.all(NewClassTree.class)) {
      if (!isOwn(source.element(made))) {
        outside.add(made);
      }
    }
    none("rules 4 and 13: nothing of a library", outside);
  }

  private static boolean isOwn(Element member) {
    for (Element e = member; e != null; e = e.getEnclosingElement()) {
      if (e == outer) {
        return true;
      }
    }
    return false;
  }

  /** The compiler writes it into each constructor. */
  private static boolean isSuperOfObject(MethodInvocationTree call) {
    return call.getMethodSelect().toString().equals("super") && call.getArguments().isEmpty();
  }

  private static void rule5() {
    List<VariableTree> changing = new ArrayList<>();
    for (VariableTree variable : source.all(VariableTree.class)) {
      Set<Modifier> modifiers = variable.getModifiers().getFlags();
      if (modifiers.contains(Modifier.STATIC) && !(modifiers.contains(Modifier.FINAL)
          && source.element(variable).asType().getKind() == TypeKind.INT)) {
        changing.add(variable);
      }
    }
    none("rule 5: static fields are constants of int", changing);
    none("rule 5: no initialiser block", source.initialisers());
  }

  private static void rule6() {
    without("rule 6", EnumSet.of(Tree.Kind.THROW, Tree.Kind.TRY, Tree.Kind.CATCH, Tree.Kind.SYNCHRONIZED,
        Tree.Kind.ASSERT, Tree.Kind.INSTANCE_OF));
    List<Tree> casts = new ArrayList<>();
    for (TypeCastTree cast : source.all(TypeCastTree.class)) {
      if (!cast.getType().toString().equals("int")) {
        casts.add(cast);
      }
    }
    none("rule 6: no cast but to int", casts);
  }

  private static void without(String rule, Set<Tree.Kind> forbidden) {
    Set<Tree.Kind> found = EnumSet.copyOf(source.kinds());
    found.retainAll(forbidden);
    Script.due(rule + ": kinds of statements and expressions", found, Set.of());
  }

  private static void rule8() {
    for (MethodTree method : source.all(MethodTree.class)) {
      Script.due("rule 8: recursion in " + method.getName() + ", " + source.place(method),
          source.depth((ExecutableElement) source.element(method)) < 0, false);
    }
  }

  /** Each loop counts one variable, that its first line begins, bounds and steps. */
  private static void rule9() {
    without("rule 9", EnumSet.of(Tree.Kind.WHILE_LOOP, Tree.Kind.DO_WHILE_LOOP, Tree.Kind.ENHANCED_FOR_LOOP));
    List<ForLoopTree> loops = source.all(ForLoopTree.class);
    Script.due("rule 9: loops", loops.isEmpty(), false);
    List<ForLoopTree> endless = new ArrayList<>();
    for (ForLoopTree loop : loops) {
      if (!counts(loop)) {
        endless.add(loop);
      }
    }
    none("rule 9: loops that count", endless);
  }

  private static boolean counts(ForLoopTree loop) {
    if (loop.getInitializer().size() != 1 || loop.getUpdate().size() != 1
        || !(loop.getInitializer().get(0) instanceof VariableTree)) {
      return false;
    }
    String name = ((VariableTree) loop.getInitializer().get(0)).getName().toString();
    String step = loop.getUpdate().get(0).getExpression().toString();
    String bound = String.valueOf(loop.getCondition()).replace("(", "").replace(")", "");
    String body = loop.getStatement().toString();
    return (step.equals(name + "++") && bound.startsWith(name + " < ")
        || step.equals(name + "--") && bound.equals(name + " >= 0"))
        && !bound.contains("||") && !body.matches("(?s).*\\b" + name + "(\\+\\+|--| [-+*/%&|^]?= ).*");
  }

  private static void rule10() {
    without("rule 10", EnumSet.of(Tree.Kind.STRING_LITERAL, Tree.Kind.DOUBLE_LITERAL, Tree.Kind.FLOAT_LITERAL,
        Tree.Kind.SWITCH_EXPRESSION));
    List<BinaryTree> divisions = new ArrayList<>();
    for (BinaryTree division : source.all(BinaryTree.class)) {
      if ((division.getKind() == Tree.Kind.DIVIDE || division.getKind() == Tree.Kind.REMAINDER)
          && !isConstant(division.getRightOperand())) {
        divisions.add(division);
      }
    }
    none("rule 7: a divisor is a constant", divisions);
  }

  private static boolean isConstant(ExpressionTree divisor) {
    return divisor instanceof LiteralTree || divisor.toString().equals("MOST");
  }

  private static void rule11() {
    Script.due("rule 11: classes", source.classes().size() <= 12, true);
    for (ClassTree one : source.classes()) {
      long fields = source.element(one).getEnclosedElements().stream()
          .filter(e -> e.getKind() == ElementKind.FIELD && !e.getModifiers().contains(Modifier.STATIC)).count();
      Script.due("rule 11: " + fields + " fields of " + one.getSimpleName(), fields <= 20, true);
    }
    for (MethodTree method : source.all(MethodTree.class)) {
      Script.due("rule 11: parameters of " + method.getName(), method.getParameters().size() <= 7, true);
      Script.due("rule 11: lines of " + method.getName(), source.lines(method) <= 60, true);
      int depth = source.depth((ExecutableElement) source.element(method));
      Script.due("rule 11: " + method.getName() + " goes " + depth + " deep", depth <= 8, true);
    }
  }

  private static void rule12() {
    List<Tree> late = new ArrayList<>();
    for (NewClassTree made : source.all(NewClassTree.class)) {
      if (!isInConstructor(made)) {
        late.add(made);
      }
    }
    for (NewArrayTree made : source.all(NewArrayTree.class)) {
      if (!isInConstructor(made)) {
        late.add(made);
      }
    }
    none("rule 12: made in constructors alone", late);
    List<Tree> handed = new ArrayList<>();
    for (MethodInvocationTree call : source.all(MethodInvocationTree.class)) {
      if (isInConstructor(call) && (!call.getMethodSelect().toString().equals("super")
          || handsOut(call.getArguments()))) {
        handed.add(call);
      }
    }
    for (NewClassTree made : source.all(NewClassTree.class)) {
      if (handsOut(made.getArguments())) {
        handed.add(made);
      }
    }
    none("rule 12: constructors call no method and hand out nothing of the object", handed);
  }

  private static boolean isInConstructor(Tree tree) {
    MethodTree method = source.around(tree, MethodTree.class);
    return method != null && source.element(method).getKind() == ElementKind.CONSTRUCTOR;
  }

  /** Only the constructor's own parameters and constants may go on to another. */
  private static boolean handsOut(List<? extends ExpressionTree> arguments) {
    for (ExpressionTree argument : arguments) {
      Element e = argument instanceof IdentifierTree ? source.element(argument) : null;
      if (e == null || e.getKind() != ElementKind.PARAMETER && !e.getModifiers().contains(Modifier.STATIC)) {
        return true;
      }
    }
    return false;
  }

  /** Calls make nothing: all that a run needs is made by the constructor. */
  private static void room() {
    com.sun.management.ThreadMXBean threads =
        (com.sun.management.ThreadMXBean) ManagementFactory.getThreadMXBean();
    long id = Thread.currentThread().getId();
    everyCall(new MobileCall(5, 5, 1));
    MobileCall x = new MobileCall(5, 5, 1);
    long unused = threads.getThreadAllocatedBytes(id);
    long before = threads.getThreadAllocatedBytes(id);
    long asking = before - unused;
    everyCall(x);
    long made = threads.getThreadAllocatedBytes(id) - before - asking;
    Script.due("bytes that calls make, " + made + ", are none", made < 64, true);
  }

  private static void everyCall(MobileCall x) {
    x.power(true);
    for (int k = 0; k < 10; k++) {
      x.update(k);
      register(x);
      x.dial(4711, 4);
      register(x);
      x.carry(0);
      x.carry(1);
      x.alert();
      x.answer();
      x.carry(1);
      x.carry(1);
      x.carry(0);
      x.digit(0);
      x.byteOf(0, 0, 0);
      x.forge(0, 0x0909L, 2);
      x.spoil(0, 0, 1);
      x.lose(0);
      x.told(k);
      x.accept(3);
      x.clear(3);
      x.hang();
      x.tick(100);
      x.radio(false);
      x.radio(true);
    }
  }

  private static void register(MobileCall x) {
    x.carry(0);
    x.carry(1);
    x.carry(0);
    x.carry(1);
  }

  private static List<ClassTree> inside() {
    List<ClassTree> all = source.classes();
    return all.subList(1, all.size());
  }
}
