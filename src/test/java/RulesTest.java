import com.sun.source.tree.ArrayAccessTree;
import com.sun.source.tree.AssertTree;
import com.sun.source.tree.BinaryTree;
import com.sun.source.tree.BlockTree;
import com.sun.source.tree.CatchTree;
import com.sun.source.tree.ClassTree;
import com.sun.source.tree.CompilationUnitTree;
import com.sun.source.tree.CompoundAssignmentTree;
import com.sun.source.tree.IdentifierTree;
import com.sun.source.tree.ImportTree;
import com.sun.source.tree.InstanceOfTree;
import com.sun.source.tree.LambdaExpressionTree;
import com.sun.source.tree.MemberReferenceTree;
import com.sun.source.tree.MemberSelectTree;
import com.sun.source.tree.MethodInvocationTree;
import com.sun.source.tree.MethodTree;
import com.sun.source.tree.NewArrayTree;
import com.sun.source.tree.NewClassTree;
import com.sun.source.tree.SynchronizedTree;
import com.sun.source.tree.ThrowTree;
import com.sun.source.tree.Tree;
import com.sun.source.tree.TryTree;
import com.sun.source.tree.VariableTree;
import com.sun.source.util.JavacTask;
import com.sun.source.util.SourcePositions;
import com.sun.source.util.TreePathScanner;
import com.sun.source.util.Trees;
import java.net.URI;
import java.nio.file.Files;
import java.nio.file.Path;
import java.util.ArrayDeque;
import java.util.Deque;
import java.util.HashMap;
import java.util.HashSet;
import java.util.List;
import java.util.Map;
import java.util.Set;
import java.util.TreeSet;
import javax.lang.model.element.Element;
import javax.lang.model.element.ElementKind;
import javax.lang.model.element.ExecutableElement;
import javax.lang.model.element.Modifier;
import javax.lang.model.element.TypeElement;
import javax.lang.model.type.ArrayType;
import javax.lang.model.type.TypeKind;
import javax.lang.model.type.TypeMirror;
import javax.tools.JavaCompiler;
import javax.tools.JavaFileObject;
import javax.tools.SimpleJavaFileObject;
import javax.tools.ToolProvider;

/** What the compiler sees of a source, held against the rules of ../shared/LANGUAGE.md, each under its number. */
public final class RulesTest extends TreePathScanner<Void, Void> {
    private static final String PROGRAM = "src/main/java/EachLendsHisFace.java";
    private static final Set<String> FUNCTIONS = Set.of("compare", "max", "min", "abs", "bitCount", "floorDiv", "floorMod",
        "signum", "numberOfTrailingZeros", "numberOfLeadingZeros", "highestOneBit", "lowestOneBit");
    private static final Map<String, Set<String>> LIBRARY = Map.of(
        "java.lang.String", Set.of("length", "charAt", "isEmpty", "equals", "indexOf", "substring", "toCharArray"),
        "java.lang.StringBuilder", Set.of("append", "charAt", "setCharAt", "setLength", "deleteCharAt", "reverse", "length",
            "toString"),
        "java.util.ArrayList", Set.of("add", "get", "set", "remove", "size", "isEmpty", "clear"),
        "java.util.List", Set.of("add", "get", "set", "remove", "size", "isEmpty", "clear", "of"),
        "java.lang.Integer", FUNCTIONS, "java.lang.Long", FUNCTIONS, "java.lang.Math", FUNCTIONS,
        "java.lang.System", Set.of("arraycopy"), "java.util.Arrays", Set.of("copyOf", "copyOfRange", "fill"),
        "java.lang.Object", Set.of("<init>"));
    private static final Set<String> TYPES = Set.of("int", "long", "short", "byte", "char", "boolean", "void",
        "java.lang.String", "java.lang.StringBuilder");
    private static final int MOST_PARAMETERS = 7;
    private static final int MOST_LINES = 60;
    private static final int MOST_DEPTH = 8;
    private static final int MOST_CLASSES = 12;
    private static final int MOST_FIELDS = 20;

    private final Set<String> faults = new TreeSet<>();
    private final Map<ExecutableElement, Set<ExecutableElement>> calls = new HashMap<>();
    private final Set<TypeElement> own = new HashSet<>();
    private final Deque<ExecutableElement> open = new ArrayDeque<>();
    private final JavacTask task;
    private final Trees trees;
    private final SourcePositions places;

    private RulesTest(JavacTask task) {
        this.task = task;
        trees = Trees.instance(task);
        places = trees.getSourcePositions();
    }

    private static Set<String> faultsOf(String name, String text) throws Exception {
        SimpleJavaFileObject source = new SimpleJavaFileObject(URI.create("text:///" + name + ".java"), JavaFileObject.Kind.SOURCE) {
            @Override
            public CharSequence getCharContent(boolean ignoring) {
                return text;
            }
        };
        JavaCompiler compiler = ToolProvider.getSystemJavaCompiler();
        JavacTask task = (JavacTask) compiler.getTask(null, null, null, null, null, List.of(source));
        RulesTest rules = new RulesTest(task);
        Iterable<? extends CompilationUnitTree> units = task.parse();
        for (Element element : task.analyze()) {
            rules.takeOwn(element);
        }
        for (CompilationUnitTree unit : units) {
            rules.scan(unit, null);
        }
        rules.lookAtDepth();
        rules.fault(rules.own.size() > MOST_CLASSES, 11, "classes: " + rules.own.size());
        return rules.faults;
    }

    private void takeOwn(Element element) {
        if (element instanceof TypeElement type) {
            own.add(type);
            for (Element member : type.getEnclosedElements()) {
                takeOwn(member);
            }
        }
    }

    private void fault(boolean broken, int rule, String what) {
        if (broken) {
            faults.add("rule " + rule + ": " + what);
        }
    }

    private Element elementHere() {
        return trees.getElement(getCurrentPath());
    }

    private TypeMirror typeOf(Tree tree) {
        return trees.getTypeMirror(trees.getPath(getCurrentPath().getCompilationUnit(), tree));
    }

    private boolean isOwn(Element type) {
        return type instanceof TypeElement && own.contains(type);
    }

    private boolean isAllowed(TypeMirror type, boolean insideArray) {
        if (type instanceof ArrayType array) {
            TypeMirror part = array.getComponentType();
            if (part instanceof ArrayType inner) {
                return !insideArray && inner.getComponentType().getKind().isPrimitive();
            }
            return isAllowed(part, true) && !part.toString().startsWith("java.");
        }
        String name = type.toString();
        return TYPES.contains(name) || isOwn(task.getTypes().asElement(type));
    }

    // ---- rules 1 and 2: what stands in the file ----

    @Override
    public Void visitImport(ImportTree tree, Void none) {
        fault(!Set.of("java.util.ArrayList", "java.util.List", "java.util.Arrays", "java.util.Iterator")
            .contains(tree.getQualifiedIdentifier().toString()), 4, "import " + tree.getQualifiedIdentifier());
        return null;
    }

    @Override
    public Void visitClass(ClassTree tree, Void none) {
        Element element = elementHere();
        ElementKind outer = element.getEnclosingElement().getKind();
        fault(tree.getSimpleName().length() == 0 || outer == ElementKind.METHOD, 2, "a local class");
        fault(outer == ElementKind.CLASS && !element.getModifiers().contains(Modifier.STATIC), 2,
            tree.getSimpleName() + " is not static");
        int fields = 0;
        for (Tree member : tree.getMembers()) {
            fault(member instanceof BlockTree block && block.isStatic(), 5, "a static block in " + tree.getSimpleName());
            fields += member instanceof VariableTree field && !field.getModifiers().getFlags().contains(Modifier.STATIC) ? 1 : 0;
        }
        fault(fields > MOST_FIELDS, 11, "fields of " + tree.getSimpleName() + ": " + fields);
        return super.visitClass(tree, none);
    }

    @Override
    public Void visitLambdaExpression(LambdaExpressionTree tree, Void none) {
        fault(true, 2, "a lambda");
        return super.visitLambdaExpression(tree, none);
    }

    @Override
    public Void visitMemberReference(MemberReferenceTree tree, Void none) {
        fault(true, 2, "a method reference");
        return super.visitMemberReference(tree, none);
    }

    // ---- rules 3 and 5: types and fields ----

    @Override
    public Void visitVariable(VariableTree tree, Void none) {
        Element element = elementHere();
        fault(!isAllowed(element.asType(), false), 3, "the type " + element.asType() + " of " + tree.getName());
        Set<Modifier> flags = element.getModifiers();
        if (flags.contains(Modifier.STATIC)) {
            TypeKind kind = element.asType().getKind();
            boolean text = element.asType().toString().equals("java.lang.String");
            boolean number = Set.of(TypeKind.INT, TypeKind.LONG, TypeKind.BOOLEAN, TypeKind.CHAR).contains(kind);
            fault(!flags.contains(Modifier.FINAL), 5, tree.getName() + " is static and changes");
            fault(!text && !number && !(tree.getInitializer() instanceof NewArrayTree), 5, tree.getName() + " is no constant");
        }
        return super.visitVariable(tree, none);
    }

    // ---- rule 4: the library ----

    @Override
    public Void visitMemberSelect(MemberSelectTree tree, Void none) {
        lookAtField(elementHere());
        return super.visitMemberSelect(tree, none);
    }

    @Override
    public Void visitIdentifier(IdentifierTree tree, Void none) {
        lookAtField(elementHere());
        return super.visitIdentifier(tree, none);
    }

    private void lookAtField(Element element) {
        if (element == null || element.getKind() != ElementKind.FIELD) {
            return;
        }
        String name = element.getSimpleName().toString();
        boolean madeByTheLanguage = name.equals("length") || name.equals("this") || name.equals("super");
        fault(!madeByTheLanguage && !isOwn(element.getEnclosingElement()), 4, "the field " + name + " of the library");
    }

    private void lookAtCall(Element element) {
        if (!(element instanceof ExecutableElement called)) {
            return;
        }
        Element type = called.getEnclosingElement();
        String name = called.getSimpleName().toString();
        if (isOwn(type)) {
            if (!open.isEmpty()) {
                calls.computeIfAbsent(open.peek(), key -> new HashSet<>()).add(called);
            }
        } else {
            fault(!LIBRARY.getOrDefault(type.toString(), Set.of()).contains(name), 4, type + "." + name);
        }
    }

    @Override
    public Void visitMethodInvocation(MethodInvocationTree tree, Void none) {
        lookAtCall(elementHere());
        return super.visitMethodInvocation(tree, none);
    }

    // ---- rules 6 and 10: what no line says ----

    @Override
    public Void visitThrow(ThrowTree tree, Void none) {
        fault(true, 6, "throw");
        return super.visitThrow(tree, none);
    }

    @Override
    public Void visitTry(TryTree tree, Void none) {
        fault(true, 6, "try");
        return super.visitTry(tree, none);
    }

    @Override
    public Void visitCatch(CatchTree tree, Void none) {
        fault(true, 6, "catch");
        return super.visitCatch(tree, none);
    }

    @Override
    public Void visitSynchronized(SynchronizedTree tree, Void none) {
        fault(true, 6, "synchronized");
        return super.visitSynchronized(tree, none);
    }

    @Override
    public Void visitAssert(AssertTree tree, Void none) {
        fault(true, 6, "assert");
        return super.visitAssert(tree, none);
    }

    @Override
    public Void visitInstanceOf(InstanceOfTree tree, Void none) {
        fault(tree.getPattern() != null && !tree.getPattern().getKind().name().equals("BINDING_PATTERN"), 6, "a record pattern");
        return super.visitInstanceOf(tree, none);
    }

    @Override
    public Void visitBinary(BinaryTree tree, Void none) {
        boolean texts = isLibraryObject(tree.getLeftOperand()) || isLibraryObject(tree.getRightOperand());
        Tree.Kind kind = tree.getKind();
        fault(texts && kind == Tree.Kind.PLUS, 10, "texts joined by +");
        boolean same = kind == Tree.Kind.EQUAL_TO || kind == Tree.Kind.NOT_EQUAL_TO;
        fault(same && isLibraryObject(tree.getLeftOperand()) && isLibraryObject(tree.getRightOperand()), 6, "== of texts");
        return super.visitBinary(tree, none);
    }

    @Override
    public Void visitCompoundAssignment(CompoundAssignmentTree tree, Void none) {
        fault(isLibraryObject(tree.getVariable()), 10, "texts joined by +=");
        return super.visitCompoundAssignment(tree, none);
    }

    private boolean isLibraryObject(Tree tree) {
        TypeMirror type = typeOf(tree);
        return type != null && type.getKind() == TypeKind.DECLARED && !isOwn(task.getTypes().asElement(type));
    }

    // ---- rule 7: what is taken out of one row is looked at before it is a place in another ----

    @Override
    public Void visitArrayAccess(ArrayAccessTree tree, Void none) {
        fault(tree.getIndex() instanceof ArrayAccessTree, 7, "an index that nobody looked at: " + tree);
        return super.visitArrayAccess(tree, none);
    }

    // ---- rule 11: methods; rule 8: none calls itself; rule 12: who makes objects ----

    @Override
    public Void visitMethod(MethodTree tree, Void none) {
        ExecutableElement element = (ExecutableElement) elementHere();
        fault(tree.getParameters().size() > MOST_PARAMETERS, 11, "parameters of " + tree.getName());
        fault(!isAllowed(element.getReturnType(), false), 3, "the type that " + tree.getName() + " answers");
        CompilationUnitTree unit = getCurrentPath().getCompilationUnit();
        long first = places.getStartPosition(unit, tree);
        if (first >= 0) {
            long lines = unit.getLineMap().getLineNumber(places.getEndPosition(unit, tree)) - unit.getLineMap().getLineNumber(first);
            fault(lines > MOST_LINES, 11, "lines of " + tree.getName() + ": " + lines);
        }
        open.push(element);
        super.visitMethod(tree, none);
        open.pop();
        return null;
    }

    @Override
    public Void visitNewClass(NewClassTree tree, Void none) {
        lookAtMaking(tree.getIdentifier().toString());
        lookAtCall(elementHere());
        return super.visitNewClass(tree, none);
    }

    @Override
    public Void visitNewArray(NewArrayTree tree, Void none) {
        lookAtMaking("a row");
        return super.visitNewArray(tree, none);
    }

    // The rules let every method make objects; this program's calls make none, so that no run can fill the room.
    private void lookAtMaking(String what) {
        boolean atStart = open.isEmpty() || open.peek().getKind() == ElementKind.CONSTRUCTOR;
        fault(!atStart, 12, what + " is made by a call");
    }

    private void lookAtDepth() {
        for (ExecutableElement method : calls.keySet()) {
            int depth = depthFrom(method, new ArrayDeque<>());
            fault(depth > MOST_DEPTH, 11, "calls from " + method + ": " + depth + " deep");
        }
    }

    private int depthFrom(ExecutableElement method, Deque<ExecutableElement> above) {
        if (above.contains(method)) {
            fault(true, 8, method + " calls itself");
            return 0;
        }
        above.push(method);
        int deepest = 0;
        for (ExecutableElement called : calls.getOrDefault(method, Set.of())) {
            deepest = Math.max(deepest, depthFrom(called, above));
            // super.f() is no call of what overrides f, so it is looked up only from another method than f.
            if (!called.getSimpleName().equals(method.getSimpleName())) {
                for (ExecutableElement overriding : overridingOf(called)) {
                    deepest = Math.max(deepest, depthFrom(overriding, above));
                }
            }
        }
        above.pop();
        return deepest + 1;
    }

    private Set<ExecutableElement> overridingOf(ExecutableElement called) {
        Set<ExecutableElement> found = new HashSet<>();
        for (TypeElement type : own) {
            for (Element member : type.getEnclosedElements()) {
                if (member instanceof ExecutableElement method && task.getElements().overrides(method, called, type)) {
                    found.add(method);
                }
            }
        }
        return found;
    }

    /** A class with these members alone has this fault, so a rule that no longer sees it is found out. */
    private static int missed(String due, String members) throws Exception {
        Set<String> seen = faultsOf("Broken", "final class Broken { " + members + " }");
        if (seen.contains(due)) {
            return 0;
        }
        System.out.println("not seen: " + due + "; seen: " + seen);
        return 1;
    }

    private static int missedOfAll() throws Exception {
        StringBuilder deep = new StringBuilder("void a9() { }");
        for (int i = 1; i < 9; i++) {
            deep.append("void a" + i + "() { a" + (i + 1) + "(); }");
        }
        return missed("rule 2: In is not static", "class In { }")
            + missed("rule 2: a local class", "void a() { class In { } }")
            + missed("rule 2: a lambda", "Runnable a = () -> { };")
            + missed("rule 2: a method reference", "Runnable a = System::gc;")
            + missed("rule 3: the type java.lang.Object of a", "Object a;")
            + missed("rule 3: the type that a answers", "Object a() { return null; }")
            + missed("rule 3: the type int[][][] of a", "int[][][] a;")
            + missed("rule 4: java.lang.String.trim", "String a(String b) { return b.trim(); }")
            + missed("rule 4: java.lang.Math.addExact", "int a(int b) { return Math.addExact(b, b); }")
            + missed("rule 4: the field MAX_VALUE of the library", "int a = Integer.MAX_VALUE;")
            + missed("rule 5: a static block in Broken", "static { }")
            + missed("rule 5: a is static and changes", "static int a;")
            + missed("rule 5: a is no constant", "static final Broken a = new Broken();")
            + missed("rule 6: throw", "void a() { throw new IllegalStateException(); }")
            + missed("rule 6: catch", "void a() { try { a(); } catch (RuntimeException e) { } }")
            + missed("rule 6: try", "void a() { try { a(); } finally { } }")
            + missed("rule 6: assert", "void a(int b) { assert b > 0; }")
            + missed("rule 6: synchronized", "void a() { synchronized (this) { } }")
            + missed("rule 6: == of texts", "boolean a(String b, String c) { return b == c; }")
            + missed("rule 7: an index that nobody looked at: b[c[d]]", "int a(int[] b, int[] c, int d) { return b[c[d]]; }")
            + missed("rule 8: a() calls itself", "void a() { b(); } void b() { a(); }")
            + missed("rule 10: texts joined by +", "String a(String b) { return b + 1; }")
            + missed("rule 10: texts joined by +=", "void a(String b) { b += 1; }")
            + missed("rule 11: parameters of a", "void a(int b, int c, int d, int e, int f, int g, int h, int i) { }")
            + missed("rule 11: lines of a: 61", "void a() {" + "\n".repeat(61) + "}")
            + missed("rule 11: calls from a1(): 9 deep", deep.toString())
            + missed("rule 12: a row is made by a call", "int[] a() { return new int[1]; }")
            + missed("rule 12: Broken is made by a call", "Broken a() { return new Broken(); }");
    }

    private static int signsBeyond(String text) {
        int wrong = 0;
        for (int i = 0; i < text.length(); i++) {
            if (text.charAt(i) > 126) {
                System.out.println("wrong: a sign beyond 126 at " + i);
                wrong++;
            }
        }
        return wrong;
    }

    public static void main(String[] args) throws Exception {
        String text = Files.readString(Path.of(PROGRAM));
        Set<String> faults = faultsOf("EachLendsHisFace", text);
        for (String fault : faults) {
            System.out.println("wrong: " + fault);
        }
        int failed = faults.size() + signsBeyond(text) + missedOfAll();
        System.out.println(failed + " faults against the rules");
        if (failed != 0) {
            System.exit(1);
        }
    }
}
