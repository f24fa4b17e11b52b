import com.sun.source.tree.BinaryTree;
import com.sun.source.tree.BlockTree;
import com.sun.source.tree.ClassTree;
import com.sun.source.tree.DoWhileLoopTree;
import com.sun.source.tree.ExpressionTree;
import com.sun.source.tree.ForLoopTree;
import com.sun.source.tree.IdentifierTree;
import com.sun.source.tree.ImportTree;
import com.sun.source.tree.MemberSelectTree;
import com.sun.source.tree.MethodInvocationTree;
import com.sun.source.tree.MethodTree;
import com.sun.source.tree.NewArrayTree;
import com.sun.source.tree.NewClassTree;
import com.sun.source.tree.Tree;
import com.sun.source.tree.VariableTree;
import com.sun.source.tree.WhileLoopTree;
import com.sun.source.util.TreePath;
import com.sun.source.util.TreePathScanner;
import com.sun.source.util.TreeScanner;
import java.io.IOException;
import java.nio.charset.StandardCharsets;
import java.nio.file.Files;
import java.nio.file.Path;
import java.util.List;
import java.util.Set;
import javax.lang.model.element.Element;
import javax.lang.model.element.ElementKind;
import javax.lang.model.element.Modifier;
import javax.lang.model.type.TypeMirror;

/** What can be seen of ../shared/LANGUAGE.md by looking at the file's tree (run from the project's folder). */
public final class LanguageTest extends TreePathScanner<Void, Void> {
    private static final Path SOURCE = Path.of("src/main/java/GloveAbout.java");
    private static final int MOST_CLASSES = 12, MOST_FIELDS = 20, MOST_PARAMETERS = 7, MOST_LINES = 60, MOST_DEEP = 8;
    private static final Set<Tree.Kind> NOT_THERE = Set.of(Tree.Kind.THROW, Tree.Kind.TRY, Tree.Kind.CATCH,
        Tree.Kind.SYNCHRONIZED, Tree.Kind.ASSERT, Tree.Kind.LAMBDA_EXPRESSION, Tree.Kind.MEMBER_REFERENCE,
        Tree.Kind.ANNOTATION, Tree.Kind.PACKAGE);
    /** What the class uses of the list in rule 4: whoever needs more of that list adds it here. */
    private static final Set<String> LIBRARY = Set.of("java.lang.Object.new", "java.lang.Math.min",
        "java.lang.Math.max", "java.lang.Math.abs", "java.lang.Integer.bitCount", "java.lang.String.length",
        "java.lang.String.charAt", "java.lang.System.arraycopy", "java.util.Arrays.fill");
    private static final String NUMBER = "(int|long|short|byte|char|boolean)";
    private static final Check C = new Check("LanguageTest");

    private final SourceCode code;
    private int classes;

    private LanguageTest(SourceCode code) {
        this.code = code;
    }

    public static void main(String[] args) throws IOException {
        String text = Files.readString(SOURCE, StandardCharsets.ISO_8859_1);
        C.holds("only signs 1 to 127", text.chars().allMatch(c -> c > 0 && c < 128));
        SourceCode code = new SourceCode(SOURCE);
        LanguageTest test = new LanguageTest(code);
        test.scan(code.unit(), null);
        C.holds("at most twelve classes", test.classes > 1 && test.classes <= MOST_CLASSES);
        chainsAreShort(new CallChains(code));
        C.finish();
    }

    /** Rules 8 and 11: eight deep, the public call itself and the library's counted; one recursion alone. */
    private static void chainsAreShort(CallChains chains) {
        C.holds("only the branches of luck() and mean() call themselves: " + chains.recursive(),
            chains.recursive().equals(Set.of("GloveAbout.weighedBranches")));
        for (String method : chains.methods()) {
            List<String> chain = chains.longestFrom(method);
            C.holds("at most eight deep: " + chain, chain.size() <= MOST_DEEP);
        }
    }

    private void holds(String what, Tree tree, boolean isSo) {
        C.holds(what + ", " + code.placeOf(tree), isSo);
    }

    @Override
    public Void scan(Tree tree, Void nothing) {
        if (tree != null && NOT_THERE.contains(tree.getKind())) {
            holds("no " + tree.getKind(), tree, false);
        }
        return super.scan(tree, nothing);
    }

    @Override
    public Void visitImport(ImportTree tree, Void nothing) {
        holds(tree + " is listed", tree, tree.toString().matches("import java\\.util\\.(Arrays|List|ArrayList);\\s*"));
        return null;
    }

    @Override
    public Void visitClass(ClassTree tree, Void nothing) {
        classes++;
        Tree parent = getCurrentPath().getParentPath().getLeaf();
        boolean isOuter = parent == code.unit();
        holds("a class that is static", tree, isOuter || tree.getModifiers().getFlags().contains(Modifier.STATIC));
        holds("no local or anonymous class", tree, isOuter || parent instanceof ClassTree);
        holds("the outer class stands above", tree, isOuter == (classes == 1));
        long fields = tree.getMembers().stream().filter(m -> m instanceof VariableTree v
            && !v.getModifiers().getFlags().contains(Modifier.STATIC)).count();
        holds("some twenty fields", tree, fields <= MOST_FIELDS);
        for (Tree member : tree.getMembers()) {
            holds("no initialiser block", member, !(member instanceof BlockTree));
        }
        return super.visitClass(tree, nothing);
    }

    @Override
    public Void visitMethod(MethodTree tree, Void nothing) {
        holds(tree.getName() + " has seven parameters at most", tree, tree.getParameters().size() <= MOST_PARAMETERS);
        holds(tree.getName() + " is short", tree, code.lineCount(tree) <= MOST_LINES);
        return super.visitMethod(tree, nothing);
    }

    /** Rules 3 and 5. */
    @Override
    public Void visitVariable(VariableTree tree, Void nothing) {
        Element variable = code.meaningOf(getCurrentPath());
        String type = variable.asType().toString();
        holds(type + " is a listed type", tree,
            type.matches(NUMBER + "(\\[\\]){0,2}|java\\.lang\\.String|GloveAbout\\.\\w+(\\[\\])?"));
        if (variable.getModifiers().contains(Modifier.STATIC)) {
            holds("static fields are final", tree, variable.getModifiers().contains(Modifier.FINAL));
            holds("static fields are constants", tree, type.matches("int|long|boolean|char|java\\.lang\\.String")
                || type.matches("(int|long|char|byte)\\[\\]") && tree.getInitializer() instanceof NewArrayTree);
        }
        return super.visitVariable(tree, nothing);
    }

    @Override
    public Void visitMethodInvocation(MethodInvocationTree tree, Void nothing) {
        String name = code.nameOf(code.meaningOf(getCurrentPath()));
        if (name.startsWith("java")) {
            holds(name + " is listed", tree, LIBRARY.contains(name));
        } else {
            // super() is the one call of a constructor that javac writes by itself.
            holds(name + " is not called by a constructor", tree, !isInConstruction());
        }
        return super.visitMethodInvocation(tree, nothing);
    }

    /** Rules 4 and 12: own classes alone; nothing of the object that is made goes to another one. */
    @Override
    public Void visitNewClass(NewClassTree tree, Void nothing) {
        String name = code.nameOf(code.meaningOf(getCurrentPath()));
        holds(name + " is an own class", tree, !name.startsWith("java"));
        if (isInConstruction()) {
            for (ExpressionTree argument : tree.getArguments()) {
                holds("a constructor hands out " + argument, tree, !tellsOfObject(argument));
            }
        }
        return super.visitNewClass(tree, nothing);
    }

    /** Whether a constructor or the first value of a field stands around it. */
    private boolean isInConstruction() {
        for (TreePath path = getCurrentPath(); path != null; path = path.getParentPath()) {
            if (path.getLeaf() instanceof MethodTree method) {
                return method.getName().contentEquals("<init>");
            }
        }
        return true;
    }

    private boolean tellsOfObject(ExpressionTree argument) {
        boolean[] tells = {false};
        new TreeScanner<Void, Void>() {
            @Override
            public Void visitIdentifier(IdentifierTree tree, Void nothing) {
                Element meaning = code.meaningOf(new TreePath(getCurrentPath(), tree));
                boolean isThis = tree.getName().contentEquals("this");
                tells[0] |= isThis || meaning == null || meaning.getKind() == ElementKind.FIELD
                    && !meaning.getModifiers().contains(Modifier.STATIC);
                return null;
            }
        }.scan(argument, null);
        return tells[0];
    }

    @Override
    public Void visitBinary(BinaryTree tree, Void nothing) {
        TypeMirror left = code.typeOf(new TreePath(getCurrentPath(), tree.getLeftOperand()));
        TypeMirror right = code.typeOf(new TreePath(getCurrentPath(), tree.getRightOperand()));
        holds("no texts joined or held together by " + tree.getKind(), tree,
            !(left + " " + right).contains("java.lang.String"));
        return super.visitBinary(tree, nothing);
    }

    @Override
    public Void visitMemberSelect(MemberSelectTree tree, Void nothing) {
        holds("no class is asked for", tree, !tree.getIdentifier().contentEquals("class"));
        return super.visitMemberSelect(tree, nothing);
    }

    @Override
    public Void visitForLoop(ForLoopTree tree, Void nothing) {
        holds("a loop with an end", tree, tree.getCondition() != null && hasEnd(tree.getCondition()));
        return super.visitForLoop(tree, nothing);
    }

    @Override
    public Void visitWhileLoop(WhileLoopTree tree, Void nothing) {
        holds("a loop with an end", tree, hasEnd(tree.getCondition()));
        return super.visitWhileLoop(tree, nothing);
    }

    @Override
    public Void visitDoWhileLoop(DoWhileLoopTree tree, Void nothing) {
        holds("a loop with an end", tree, hasEnd(tree.getCondition()));
        return super.visitDoWhileLoop(tree, nothing);
    }

    /** A counter is held against a bound, alone or ahead of what else must be so. */
    private static boolean hasEnd(ExpressionTree condition) {
        return condition.toString().matches("\\(?[\\w +]+ (<|<=|>|>=) [^|]*");
    }
}
