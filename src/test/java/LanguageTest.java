import com.sun.source.tree.AssertTree;
import com.sun.source.tree.BinaryTree;
import com.sun.source.tree.CatchTree;
import com.sun.source.tree.ClassTree;
import com.sun.source.tree.CompilationUnitTree;
import com.sun.source.tree.CompoundAssignmentTree;
import com.sun.source.tree.EnhancedForLoopTree;
import com.sun.source.tree.ImportTree;
import com.sun.source.tree.LambdaExpressionTree;
import com.sun.source.tree.MemberReferenceTree;
import com.sun.source.tree.MethodInvocationTree;
import com.sun.source.tree.MethodTree;
import com.sun.source.tree.NewClassTree;
import com.sun.source.tree.SynchronizedTree;
import com.sun.source.tree.ThrowTree;
import com.sun.source.tree.Tree;
import com.sun.source.tree.TryTree;
import com.sun.source.tree.VariableTree;
import com.sun.source.util.JavacTask;
import com.sun.source.util.TreePath;
import com.sun.source.util.TreePathScanner;
import com.sun.source.util.Trees;
import java.io.IOException;
import java.nio.file.Files;
import java.nio.file.Path;
import java.util.ArrayList;
import java.util.HashMap;
import java.util.HashSet;
import java.util.List;
import java.util.Map;
import java.util.Set;
import java.util.TreeSet;
import javax.lang.model.element.Element;
import javax.lang.model.element.ElementKind;
import javax.lang.model.element.ExecutableElement;
import javax.lang.model.element.Modifier;
import javax.lang.model.element.TypeElement;
import javax.tools.JavaCompiler;
import javax.tools.StandardJavaFileManager;
import javax.tools.ToolProvider;

/** Reads src/main/java/Rentroll.java as the compiler does, and looks whether it keeps to ../shared/LANGUAGE.md. */
public final class LanguageTest {
    private static final int MOST_DEPTH = 8;
    private static final int MOST_LINES = 60;
    private static final Set<String> LIBRARY = Set.of(
        "String.length", "String.charAt", "String.isEmpty", "String.equals", "String.indexOf", "String.substring",
        "String.toCharArray", "StringBuilder.append", "StringBuilder.charAt", "StringBuilder.setCharAt",
        "StringBuilder.setLength", "StringBuilder.deleteCharAt", "StringBuilder.reverse", "StringBuilder.length",
        "StringBuilder.toString", "Math.max", "Math.min", "Math.abs", "Integer.bitCount", "System.arraycopy",
        "Arrays.fill", "Arrays.copyOf", "Arrays.copyOfRange");
    private static final Set<String> THROWN = Set.of("IllegalStateException", "IllegalArgumentException",
        "IndexOutOfBoundsException");

    public static void main(String[] args) throws IOException {
        Path source = Path.of(args.length > 0 ? args[0] : "src/main/java/Rentroll.java");
        JavaCompiler compiler = ToolProvider.getSystemJavaCompiler();
        try (StandardJavaFileManager files = compiler.getStandardFileManager(null, null, null)) {
            JavacTask task = (JavacTask) compiler.getTask(null, files, null, List.of("-proc:none"), null,
                files.getJavaFileObjects(source));
            CompilationUnitTree unit = task.parse().iterator().next();
            task.analyze();
            Reader reader = new Reader(unit, Trees.instance(task));
            reader.scan(unit, null);
            reader.lookAtWhole();
        }
        lookAtSigns(Files.readAllLines(source));
        lookAtFace(source);
        Check.end("LanguageTest");
    }

    private static void lookAtSigns(List<String> lines) {
        for (int line = 0; line < lines.size(); line++) {
            boolean isPlain = lines.get(line).chars().allMatch(sign -> sign >= 32 && sign < 127);
            Check.same("line " + (line + 1) + " is plain and at most 120 signs long",
                isPlain && lines.get(line).length() <= 120, true);
        }
    }

    /** The face of the document, line by line, must stand in the source, and nothing else that is public. */
    private static void lookAtFace(Path source) throws IOException {
        String text = Files.readString(source).replaceAll("\\s+", " ");
        List<String> document = Files.readAllLines(Path.of("../shared/DOC.md"));
        int first = document.indexOf("public final class Rentroll {");
        int count = 0;
        for (int line = first; !document.get(line).equals("}"); line++) {
            String face = document.get(line).trim().replaceAll(";$", " {");
            Check.same(face, text.contains(face), true);
            count++;
        }
        Check.same("public members", text.split("public ", -1).length - 1, count);
    }

    private static final class Reader extends TreePathScanner<Void, Void> {
        private final CompilationUnitTree unit;
        private final Trees trees;
        private final Map<Element, Set<Element>> calls = new HashMap<>();
        private final Map<Element, Integer> depths = new HashMap<>();
        private final List<ExecutableElement> methods = new ArrayList<>();
        private int classes;

        Reader(CompilationUnitTree unit, Trees trees) {
            this.unit = unit;
            this.trees = trees;
        }

        private String place(Tree tree) {
            long at = trees.getSourcePositions().getStartPosition(unit, tree);
            return "line " + unit.getLineMap().getLineNumber(at);
        }

        private void rule(Tree tree, String rule, boolean isKept) {
            Check.same(place(tree) + ": " + rule, isKept, true);
        }

        private Element method() {
            TreePath path = getCurrentPath();
            while (path != null && !(path.getLeaf() instanceof MethodTree)) {
                path = path.getParentPath();
            }
            return path == null ? null : trees.getElement(path);
        }

        private boolean isString(Tree tree) {
            return String.valueOf(trees.getTypeMirror(new TreePath(getCurrentPath(), tree))).equals("java.lang.String");
        }

        @Override
        public Void visitImport(ImportTree tree, Void none) {
            rule(tree, "4: no such import", tree.toString().trim().equals("import java.util.Arrays;"));
            return super.visitImport(tree, none);
        }

        @Override
        public Void visitClass(ClassTree tree, Void none) {
            classes++;
            Set<Modifier> modifiers = tree.getModifiers().getFlags();
            boolean isInside = classes > 1;
            rule(tree, "1, 2: classes inside are private and static",
                !isInside || modifiers.contains(Modifier.PRIVATE) && modifiers.contains(Modifier.STATIC));
            rule(tree, "2: no class but an abstract one is built upon", tree.getExtendsClause() == null);
            int fields = 0;
            for (Tree member : tree.getMembers()) {
                if (member instanceof VariableTree) {
                    Set<Modifier> of = ((VariableTree) member).getModifiers().getFlags();
                    fields += of.contains(Modifier.STATIC) ? 0 : 1;
                    rule(member, "5: static fields are final",
                        !of.contains(Modifier.STATIC) || of.contains(Modifier.FINAL));
                    rule(member, "1: fields are private", of.contains(Modifier.PRIVATE));
                }
                rule(member, "5: no initialiser block", member.getKind() != Tree.Kind.BLOCK);
            }
            rule(tree, "11: twenty fields", fields <= 20);
            return super.visitClass(tree, none);
        }

        @Override
        public Void visitMethod(MethodTree tree, Void none) {
            ExecutableElement element = (ExecutableElement) trees.getElement(getCurrentPath());
            methods.add(element);
            calls.putIfAbsent(element, new HashSet<>());
            long start = trees.getSourcePositions().getStartPosition(unit, tree);
            long end = trees.getSourcePositions().getEndPosition(unit, tree);
            long lines = unit.getLineMap().getLineNumber(end) - unit.getLineMap().getLineNumber(start) + 1;
            rule(tree, "11: short methods", lines <= MOST_LINES);
            rule(tree, "11: seven parameters", tree.getParameters().size() <= 7);
            return super.visitMethod(tree, none);
        }

        @Override
        public Void visitMethodInvocation(MethodInvocationTree tree, Void none) {
            Element called = trees.getElement(getCurrentPath());
            if (called != null && called.getKind() == ElementKind.METHOD) {
                noteCall(tree, (ExecutableElement) called);
            }
            return super.visitMethodInvocation(tree, none);
        }

        private void noteCall(MethodInvocationTree tree, ExecutableElement called) {
            Element owner = called.getEnclosingElement();
            boolean isOwn = ((TypeElement) owner).getQualifiedName().toString().startsWith("Rentroll");
            if (isOwn) {
                calls.computeIfAbsent(method(), key -> new HashSet<>()).add(called);
            } else {
                String type = owner.getSimpleName().toString().replace("AbstractStringBuilder", "StringBuilder");
                String name = type + "." + called.getSimpleName();
                rule(tree, "4: " + name, LIBRARY.contains(name));
                boolean isLong = name.equals("StringBuilder.append")
                    && !List.of("char", "java.lang.String", "int").contains(
                        called.getParameters().get(0).asType().toString());
                rule(tree, "4: append", !isLong);
            }
        }

        @Override
        public Void visitNewClass(NewClassTree tree, Void none) {
            rule(tree, "3: no anonymous class", tree.getClassBody() == null);
            return super.visitNewClass(tree, none);
        }

        @Override
        public Void visitBinary(BinaryTree tree, Void none) {
            boolean isText = isString(tree.getLeftOperand()) || isString(tree.getRightOperand());
            rule(tree, "6, 10: texts are neither joined nor compared so", !isText);
            return super.visitBinary(tree, none);
        }

        @Override
        public Void visitCompoundAssignment(CompoundAssignmentTree tree, Void none) {
            rule(tree, "10: texts are not joined so", !isString(tree.getVariable()));
            return super.visitCompoundAssignment(tree, none);
        }

        @Override
        public Void visitThrow(ThrowTree tree, Void none) {
            boolean isNew = tree.getExpression() instanceof NewClassTree;
            String name = isNew ? ((NewClassTree) tree.getExpression()).getIdentifier().toString() : "";
            rule(tree, "6: throws", THROWN.contains(name));
            rule(tree, "6: not in a constructor", method().getKind() == ElementKind.METHOD);
            return super.visitThrow(tree, none);
        }

        @Override
        public Void visitLambdaExpression(LambdaExpressionTree tree, Void none) {
            rule(tree, "2: no lambda", false);
            return null;
        }

        @Override
        public Void visitMemberReference(MemberReferenceTree tree, Void none) {
            rule(tree, "2: no method reference", false);
            return null;
        }

        @Override
        public Void visitTry(TryTree tree, Void none) {
            rule(tree, "6: nothing is caught here", false);
            return null;
        }

        @Override
        public Void visitCatch(CatchTree tree, Void none) {
            rule(tree, "6: nothing is caught here", false);
            return null;
        }

        @Override
        public Void visitAssert(AssertTree tree, Void none) {
            rule(tree, "6: no assert", false);
            return null;
        }

        @Override
        public Void visitSynchronized(SynchronizedTree tree, Void none) {
            rule(tree, "6: no synchronized", false);
            return null;
        }

        @Override
        public Void visitEnhancedForLoop(EnhancedForLoopTree tree, Void none) {
            rule(tree, "12: lists are gone through by index", false);
            return null;
        }

        void lookAtWhole() {
            Set<String> open = new TreeSet<>();
            for (ExecutableElement method : methods) {
                if (method.getModifiers().contains(Modifier.PUBLIC)) {
                    open.add(method.getSimpleName().toString());
                }
            }
            open.remove("<init>");
            for (ExecutableElement method : methods) {
                String name = method.getSimpleName().toString();
                boolean isPublic = method.getModifiers().contains(Modifier.PUBLIC);
                Check.same("1: name of " + method, isPublic || !open.contains(name), true);
                Check.same("11: depth of " + method, depth(method, new HashSet<>()) <= MOST_DEPTH, true);
            }
            Check.same("11: twelve classes", classes <= 12, true);
        }

        private int depth(Element method, Set<Element> above) {
            if (!above.add(method)) {
                Check.same("8: " + method + " calls itself", true, false);
                return 0;
            }
            Integer known = depths.get(method);
            int deepest = 0;
            for (Element called : known == null ? calls.getOrDefault(method, Set.of()) : Set.<Element>of()) {
                deepest = Math.max(deepest, depth(called, above));
            }
            above.remove(method);
            depths.putIfAbsent(method, known == null ? deepest + 1 : known);
            return depths.get(method);
        }
    }
}
