import java.io.IOException;
import java.io.UncheckedIOException;
import java.lang.reflect.Member;
import java.lang.reflect.Method;
import java.lang.reflect.Modifier;
import java.nio.file.Files;
import java.nio.file.Path;
import java.util.ArrayList;
import java.util.Arrays;
import java.util.HashSet;
import java.util.List;
import java.util.Set;
import java.util.TreeSet;

/** The class shows the face that the document's code block has, and no more. */
public final class FaceTest {
    private static final Due DUE = new Due("The public face");
    private static final Path DOCUMENT = Path.of("../shared/DOC.md");

    // Word for word as in the document.
    private static final String BLOCK = """
        public final class FlowProofs {
            public static final int BAD = -1, DONE = 0, MORE = 1, NO_ENDS = 2, CIRCLE = 3;
            public FlowProofs(int nodes, int edges);
            public int edge(int u, int v, int capacity, int cost);
            public boolean ends(int source, int sink);
            public int run(int rounds);
            public int value();
            public long cost();
            public int flow(int edge);
            public int potential(int node);
            public boolean inCut(int node);
            public boolean check();
            public int next();
            public int count(int what);
        }
        """;

    public static void main(String[] args) {
        DUE.holds("the code block: it is the document's", FaceTest::blockIsTheDocuments);
        DUE.holds("'public final class FlowProofs'", FaceTest::classAlone);
        DUE.holds("'public static final int BAD = -1, .. CIRCLE = 3'", FaceTest::constants);
        DUE.holds("'public FlowProofs(int nodes, int edges)' and no other", FaceTest::constructor);
        DUE.holds("'public int edge(..)' to 'public int count(..)' and no other", FaceTest::methods);
        DUE.holds("LANGUAGE.md, rule 1: classes inside are static, and not public or protected", FaceTest::classesInside);
        DUE.holds("LANGUAGE.md, rule 1: no private method bears the name of a public one", FaceTest::namesOfMethods);
        DUE.finish();
    }

    // The public face: the copy above is the document's block. The document is no part of the project,
    // so the class can be tested without it.
    private static void blockIsTheDocuments() {
        if (!Files.exists(DOCUMENT)) {
            System.out.println("  not compared, as there is no " + DOCUMENT);
            return;
        }
        try {
            DUE.is("the document has the block", true, Files.readString(DOCUMENT).contains("```java\n" + BLOCK + "```"));
        } catch (IOException unread) {
            throw new UncheckedIOException(unread);
        }
    }

    // The public face, "public final class FlowProofs": it extends no class and implements nothing.
    private static void classAlone() {
        DUE.same("modifiers", "public final", Modifier.toString(FlowProofs.class.getModifiers()));
        DUE.same("package", "", FlowProofs.class.getPackageName());
        DUE.same("class above", "class java.lang.Object", FlowProofs.class.getSuperclass().toString());
        DUE.is("interfaces", 0, FlowProofs.class.getInterfaces().length);
        DUE.is("type parameters", 0, FlowProofs.class.getTypeParameters().length);
    }

    // The public face, "BAD = -1, DONE = 0, MORE = 1, NO_ENDS = 2, CIRCLE = 3", and no other field.
    private static void constants() {
        DUE.is("BAD", -1, FlowProofs.BAD);
        DUE.is("DONE", 0, FlowProofs.DONE);
        DUE.is("MORE", 1, FlowProofs.MORE);
        DUE.is("NO_ENDS", 2, FlowProofs.NO_ENDS);
        DUE.is("CIRCLE", 3, FlowProofs.CIRCLE);
        List<String> wanted = new ArrayList<>();
        for (String name : List.of("BAD", "DONE", "MORE", "NO_ENDS", "CIRCLE")) {
            DUE.is("the block has " + name, true, BLOCK.contains(" " + name + " = "));
            wanted.add("public static final int FlowProofs." + name);
        }
        justThese(wanted, FlowProofs.class.getDeclaredFields());
    }

    // The public face, "public FlowProofs(int nodes, int edges)", and no other constructor.
    private static void constructor() {
        List<String> wanted = linesOfBlock("public FlowProofs(");
        DUE.is("constructors of the block", 1, wanted.size());
        justThese(wanted, FlowProofs.class.getDeclaredConstructors());
    }

    // The public face, the eleven methods, with what they take and answer, and no other method.
    private static void methods() {
        List<String> wanted = linesOfBlock("public int ", "public long ", "public boolean ");
        DUE.is("methods of the block", 11, wanted.size());
        justThese(wanted, FlowProofs.class.getDeclaredMethods());
    }

    // LANGUAGE.md, rule 1: "the classes inside it, which are private or package-visible and static".
    private static void classesInside() {
        for (Class<?> inside : FlowProofs.class.getDeclaredClasses()) {
            int modifiers = inside.getModifiers();
            DUE.is(inside + " is static", true, Modifier.isStatic(modifiers));
            DUE.is(inside + " is to be seen", false, Modifier.isPublic(modifiers) || Modifier.isProtected(modifiers));
        }
    }

    // LANGUAGE.md, rule 1: "No private method bears the name of a public one."
    private static void namesOfMethods() {
        Set<String> shown = new HashSet<>();
        for (Method m : FlowProofs.class.getMethods()) shown.add(m.getName());
        for (Method m : FlowProofs.class.getDeclaredMethods()) {
            if (Modifier.isPrivate(m.getModifiers())) DUE.is(m + " bears a public name", false, shown.contains(m.getName()));
        }
    }

    private static void justThese(List<String> wanted, Member[] members) {
        Set<String> seen = new TreeSet<>();
        for (Member m : members) {
            if (!Modifier.isPrivate(m.getModifiers())) seen.add(m.toString());
        }
        for (String member : wanted) DUE.is("there is " + member, true, seen.remove(member));
        for (String member : seen) DUE.is("there is " + member, false, true);
    }

    /** The lines of the block that begin so, as reflection tells them: without names of parameters. */
    private static List<String> linesOfBlock(String... beginnings) {
        List<String> told = new ArrayList<>();
        for (String line : BLOCK.split("\n")) {
            String text = line.strip();
            if (text.endsWith(");") && Arrays.stream(beginnings).anyMatch(text::startsWith)) told.add(asReflectionTells(text));
        }
        return told;
    }

    private static String asReflectionTells(String line) {
        String types = line.replace(";", "").replaceAll("int \\w+([,)])", "int$1").replace(", ", ",");
        return types.replaceFirst("^(public (?:int|long|boolean) )", "$1FlowProofs.");
    }
}
