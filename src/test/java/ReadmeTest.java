import java.io.IOException;
import java.lang.reflect.Method;
import java.lang.reflect.Modifier;
import java.nio.file.Files;
import java.nio.file.Path;
import java.util.ArrayList;
import java.util.HashMap;
import java.util.List;
import java.util.Map;
import java.util.Set;
import java.util.TreeSet;
import java.util.regex.Matcher;
import java.util.regex.Pattern;

/** The calls that README.md shows as an example answer what it shows: they are read from it and made. */
public final class ReadmeTest {
    private static final Due DUE = new Due("README.md");
    private static final Pattern BLOCK = Pattern.compile("^```java\n(.*?)^```$", Pattern.DOTALL | Pattern.MULTILINE);
    private static final Pattern MAKING =
        Pattern.compile("FlowProofs (\\w+) = new FlowProofs\\((-?\\d+), (-?\\d+)\\); +// .+");
    private static final Pattern CALL = Pattern.compile("(\\w+)\\.(\\w+)\\(([-\\d, ]*)\\); +// ([-\\w]+)(: .+)?");

    private static final Set<String> SHOWN = new TreeSet<>();

    public static void main(String[] args) throws IOException {
        List<String> examples = examplesOf(Files.readString(Path.of("README.md")));
        for (int i = 0; i < examples.size(); i++) {
            String example = examples.get(i);
            DUE.holds("example " + (i + 1), () -> answersAsShown(example));
        }
        DUE.holds("the examples show every method and every constant of the face", ReadmeTest::nothingIsLeftOut);
        DUE.finish();
    }

    private static List<String> examplesOf(String readme) {
        List<String> examples = new ArrayList<>();
        Matcher block = BLOCK.matcher(readme);
        while (block.find()) examples.add(block.group(1));
        return examples;
    }

    private static void answersAsShown(String example) {
        Map<String, FlowProofs> objects = new HashMap<>();
        for (String line : example.split("\n")) {
            Matcher making = MAKING.matcher(line);
            Matcher call = CALL.matcher(line);
            if (making.matches()) {
                int nodes = Integer.parseInt(making.group(2));
                int edges = Integer.parseInt(making.group(3));
                objects.put(making.group(1), new FlowProofs(nodes, edges));
            } else if (call.matches() && objects.containsKey(call.group(1))) {
                String answer = call.group(4);
                SHOWN.add(call.group(2));
                SHOWN.add(answer);
                DUE.same(line, valueOf(answer), answerOf(objects.get(call.group(1)), call.group(2), call.group(3)));
            } else {
                DUE.same("a line that shows no call with its answer", "none", line);
            }
        }
    }

    /** A constant's name stands for its number. */
    private static String valueOf(String answer) {
        try {
            return String.valueOf(FlowProofs.class.getField(answer).getInt(null));
        } catch (ReflectiveOperationException noConstant) {
            return answer;
        }
    }

    private static String answerOf(FlowProofs x, String name, String list) {
        String[] numbers = list.isEmpty() ? new String[0] : list.split(", ");
        Class<?>[] types = new Class<?>[numbers.length];
        Object[] arguments = new Object[numbers.length];
        for (int i = 0; i < numbers.length; i++) {
            types[i] = int.class;
            arguments[i] = Integer.valueOf(numbers[i]);
        }
        try {
            return String.valueOf(FlowProofs.class.getMethod(name, types).invoke(x, arguments));
        } catch (ReflectiveOperationException noAnswer) {
            return noAnswer.toString();
        }
    }

    private static void nothingIsLeftOut() {
        for (Method m : FlowProofs.class.getDeclaredMethods()) {
            if (Modifier.isPublic(m.getModifiers())) DUE.is("shows " + m.getName(), true, SHOWN.contains(m.getName()));
        }
        for (String constant : List.of("BAD", "DONE", "MORE", "NO_ENDS", "CIRCLE")) {
            DUE.is("shows " + constant, true, SHOWN.contains(constant));
        }
    }
}
