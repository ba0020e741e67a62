import java.lang.reflect.Constructor;
import java.lang.reflect.Field;
import java.lang.reflect.Method;
import java.lang.reflect.Modifier;
import java.util.TreeSet;

/** The class shows the document's face and no more. */
public final class FaceTest {
    private static final String[] FACE = {
        "public static final int FlowProofs.BAD",
        "public static final int FlowProofs.CIRCLE",
        "public static final int FlowProofs.DONE",
        "public static final int FlowProofs.MORE",
        "public static final int FlowProofs.NO_ENDS",
        "public FlowProofs(int,int)",
        "public int FlowProofs.edge(int,int,int,int)",
        "public boolean FlowProofs.ends(int,int)",
        "public int FlowProofs.run(int)",
        "public int FlowProofs.value()",
        "public long FlowProofs.cost()",
        "public int FlowProofs.flow(int)",
        "public int FlowProofs.potential(int)",
        "public boolean FlowProofs.inCut(int)",
        "public boolean FlowProofs.check()",
        "public int FlowProofs.next()",
        "public int FlowProofs.count(int)"};

    public static void main(String[] args) {
        Due due = new Due("The public face");
        TreeSet<String> seen = new TreeSet<>();
        for (Field f : FlowProofs.class.getDeclaredFields()) {
            if (!Modifier.isPrivate(f.getModifiers())) seen.add(f.toString());
        }
        for (Constructor<?> c : FlowProofs.class.getDeclaredConstructors()) {
            if (!Modifier.isPrivate(c.getModifiers())) seen.add(c.toString());
        }
        for (Method m : FlowProofs.class.getDeclaredMethods()) {
            if (!Modifier.isPrivate(m.getModifiers())) seen.add(m.toString());
        }
        for (String member : FACE) due.is("there is " + member, true, seen.remove(member));
        for (String member : seen) due.is("there is " + member, false, true);
        int modifiers = FlowProofs.class.getModifiers();
        due.is("public and final", true, Modifier.isPublic(modifiers) && Modifier.isFinal(modifiers));
        due.is("BAD", -1, FlowProofs.BAD);
        due.is("DONE", 0, FlowProofs.DONE);
        due.is("MORE", 1, FlowProofs.MORE);
        due.is("NO_ENDS", 2, FlowProofs.NO_ENDS);
        due.is("CIRCLE", 3, FlowProofs.CIRCLE);
        due.finish();
    }
}
