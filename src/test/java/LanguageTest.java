import com.sun.source.tree.*;
import com.sun.source.util.*;
import java.nio.file.Path;
import java.util.*;
import java.util.regex.Pattern;
import javax.lang.model.element.*;
import javax.tools.*;

/** The rules of ../shared/LANGUAGE.md that can be read off the source: forms, sizes, names, how deep calls go. */
public final class LanguageTest {
    private static final Set<Tree.Kind> RULED_OUT = EnumSet.of(Tree.Kind.THROW, Tree.Kind.TRY, Tree.Kind.CATCH,
        Tree.Kind.SYNCHRONIZED, Tree.Kind.ASSERT, Tree.Kind.LAMBDA_EXPRESSION, Tree.Kind.MEMBER_REFERENCE,
        Tree.Kind.IMPORT, Tree.Kind.PACKAGE);
    private static final Set<String> LIBRARY = Set.of("java.lang.System.arraycopy", "java.lang.Math.abs", "java.lang.Math.min",
        "java.lang.Math.max", "java.lang.Integer.bitCount", "java.lang.String.length", "java.lang.String.charAt",
        "java.lang.Object.<init>");
    /** Numbers, truths, signs, Strings, own classes; rows of them, and rows of rows of numbers. */
    private static final Pattern TYPE = Pattern.compile(
        "((int|long|short|byte|char|boolean|java\\.lang\\.String|BoreDesk(\\.\\w+)?)(\\[\\])?|(int|long|short|byte)\\[\\]\\[\\])");
    private static final Map<Element, Set<Element>> CALLS = new HashMap<>();
    private static final Set<String> PUBLIC_NAMES = new HashSet<>();
    private static Trees trees;
    private static CompilationUnitTree unit;
    private static int classes = 0;

    public static void main(String[] args) throws Exception {
        JavaCompiler compiler = ToolProvider.getSystemJavaCompiler();
        StandardJavaFileManager files = compiler.getStandardFileManager(null, null, null);
        JavacTask task = (JavacTask) compiler.getTask(null, files, null, List.of("-proc:none"), null,
            files.getJavaFileObjects(Path.of("src/main/java/BoreDesk.java")));
        unit = task.parse().iterator().next();
        task.analyze();
        trees = Trees.instance(task);
        ClassTree face = (ClassTree) unit.getTypeDecls().get(0);
        Desk.due("one class in the file", unit.getTypeDecls().size(), 1);
        for (Tree member : face.getMembers()) {
            if (member instanceof MethodTree method && method.getModifiers().getFlags().contains(Modifier.PUBLIC)) {
                PUBLIC_NAMES.add(method.getName().toString());
            }
        }
        Desk.due("the public face, with the constructor", PUBLIC_NAMES.size(), 58);
        new Scanner().scan(unit, null);
        Desk.due("classes, at most twelve: " + classes, classes <= 12, true);
        for (Element method : CALLS.keySet()) {
            int deep = depthFrom(method, new ArrayDeque<>());
            Desk.due("calls from " + method + " go " + deep + " deep, at most 8", deep <= 8, true);
        }
        Desk.end();
    }

    private static int depthFrom(Element method, Deque<Element> open) {
        if (open.contains(method)) {
            Desk.due("no recursion in " + method, false, true);
            return 0;
        }
        open.push(method);
        int deepest = 0;
        for (Element next : CALLS.getOrDefault(method, Set.of())) {
            deepest = Math.max(deepest, depthFrom(next, open));
        }
        open.pop();
        return deepest + 1;
    }

    private static void flag(Tree tree, String rule) {
        long line = unit.getLineMap().getLineNumber(trees.getSourcePositions().getStartPosition(unit, tree));
        Desk.due("line " + line + ": " + rule, false, true);
    }

    private static final class Scanner extends TreePathScanner<Void, Void> {
        private Element method;

        @Override
        public Void scan(Tree tree, Void nothing) {
            if (tree != null && RULED_OUT.contains(tree.getKind())) {
                flag(tree, "ruled out: " + tree.getKind());
            }
            return super.scan(tree, nothing);
        }

        @Override
        public Void visitClass(ClassTree tree, Void nothing) {
            classes++;
            Set<Modifier> flags = tree.getModifiers().getFlags();
            boolean inside = getCurrentPath().getParentPath().getLeaf() instanceof ClassTree;
            if (inside && (!flags.contains(Modifier.STATIC) || flags.contains(Modifier.PUBLIC))) {
                flag(tree, "a class inside is static, and private or package-visible");
            }
            int fields = 0;
            for (Tree member : tree.getMembers()) {
                if (member instanceof VariableTree field) {
                    Set<Modifier> of = field.getModifiers().getFlags();
                    fields += of.contains(Modifier.STATIC) ? 0 : 1;
                    if (of.contains(Modifier.STATIC) && !of.contains(Modifier.FINAL)) {
                        flag(field, "a static field is final");
                    }
                    if (!inside && !of.contains(Modifier.PRIVATE) && !field.getName().contentEquals("NONE")) {
                        flag(field, "no other public or package-visible member");
                    }
                } else if (member instanceof BlockTree) {
                    flag(member, "no initialiser block");
                } else if (member instanceof MethodTree of) {
                    checkName(of, inside);
                }
            }
            Desk.due("fields of " + tree.getSimpleName() + ", at most twenty: " + fields, fields <= 20, true);
            return super.visitClass(tree, nothing);
        }

        private void checkName(MethodTree tree, boolean inside) {
            boolean open = tree.getModifiers().getFlags().contains(Modifier.PUBLIC);
            String name = tree.getName().toString();
            if (!open && !name.equals("<init>") && PUBLIC_NAMES.contains(name)) {
                flag(tree, "no private method bears the name of a public one: " + name);
            }
            if (!inside && !open && !tree.getModifiers().getFlags().contains(Modifier.PRIVATE)) {
                flag(tree, "no package-visible method: " + name);
            }
        }

        @Override
        public Void visitMethod(MethodTree tree, Void nothing) {
            Element outer = method;
            method = trees.getElement(getCurrentPath());
            CALLS.putIfAbsent(method, new LinkedHashSet<>());
            SourcePositions places = trees.getSourcePositions();
            long first = unit.getLineMap().getLineNumber(places.getStartPosition(unit, tree));
            long last = unit.getLineMap().getLineNumber(Math.max(0, places.getEndPosition(unit, tree)));
            Desk.due("lines of " + tree.getName() + ", at most sixty: " + (last - first + 1), last - first < 60, true);
            Desk.due("parameters of " + tree.getName() + ", at most seven", tree.getParameters().size() <= 7, true);
            super.visitMethod(tree, nothing);
            method = outer;
            return null;
        }

        @Override
        public Void visitMethodInvocation(MethodInvocationTree tree, Void nothing) {
            called(trees.getElement(new TreePath(getCurrentPath(), tree.getMethodSelect())), tree);
            return super.visitMethodInvocation(tree, nothing);
        }

        @Override
        public Void visitNewClass(NewClassTree tree, Void nothing) {
            called(trees.getElement(getCurrentPath()), tree);
            if (tree.getClassBody() != null) {
                flag(tree, "no anonymous class");
            }
            return super.visitNewClass(tree, nothing);
        }

        private void called(Element target, Tree tree) {
            String owner = ((TypeElement) target.getEnclosingElement()).getQualifiedName().toString();
            if (!owner.startsWith("BoreDesk")) {
                String name = owner + "." + target.getSimpleName();
                if (!LIBRARY.contains(name)) {
                    flag(tree, "not of the library: " + name);
                }
            } else if (method != null) {
                CALLS.get(method).add(target);
            }
        }

        @Override
        public Void visitMemberSelect(MemberSelectTree tree, Void nothing) {
            Element target = trees.getElement(getCurrentPath());
            if (target != null && target.getKind() == ElementKind.FIELD && !tree.getIdentifier().contentEquals("length")) {
                String owner = ((TypeElement) target.getEnclosingElement()).getQualifiedName().toString();
                if (!owner.startsWith("BoreDesk")) {
                    flag(tree, "not of the library: " + owner + "." + tree.getIdentifier());
                }
            }
            return super.visitMemberSelect(tree, nothing);
        }

        @Override
        public Void visitVariable(VariableTree tree, Void nothing) {
            String type = trees.getTypeMirror(getCurrentPath()).toString();
            if (!TYPE.matcher(type).matches()) {
                flag(tree, "not of the types: " + type);
            }
            return super.visitVariable(tree, nothing);
        }

        @Override
        public Void visitBinary(BinaryTree tree, Void nothing) {
            if (tree.getKind() == Tree.Kind.PLUS && trees.getTypeMirror(getCurrentPath()).toString().endsWith("String")) {
                flag(tree, "no joining of texts by +");
            }
            boolean compares = tree.getKind() == Tree.Kind.EQUAL_TO || tree.getKind() == Tree.Kind.NOT_EQUAL_TO;
            if (compares && trees.getTypeMirror(new TreePath(getCurrentPath(), tree.getLeftOperand())).toString().endsWith("String")) {
                flag(tree, "no == or != between two Strings");
            }
            return super.visitBinary(tree, nothing);
        }

        @Override
        public Void visitTypeCast(TypeCastTree tree, Void nothing) {
            if (!trees.getTypeMirror(getCurrentPath()).getKind().isPrimitive()) {
                flag(tree, "no cast of an object without a test");
            }
            return super.visitTypeCast(tree, nothing);
        }

        @Override
        public Void visitLiteral(LiteralTree tree, Void nothing) {
            if (tree.getValue() instanceof String text) {
                for (char sign : text.toCharArray()) {
                    if (sign < 1 || sign > 127) {
                        flag(tree, "signs 1 to 127 in a text");
                    }
                }
            }
            return super.visitLiteral(tree, nothing);
        }
    }
}
