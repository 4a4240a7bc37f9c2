import java.lang.reflect.InvocationTargetException;
import java.lang.reflect.Method;
import java.lang.reflect.Modifier;
import java.nio.file.Files;
import java.nio.file.Path;
import java.util.Set;
import java.util.TreeSet;
import java.util.regex.Matcher;
import java.util.regex.Pattern;

/** What README.md says that a call answers is what it answers, and each call of the face is shown there. */
public final class ReadmeTests {
    private static final Check CHECK = new Check("ReadmeTests");
    private static final Pattern EXAMPLE = Pattern.compile(
        "x = (?<made>new) GriefTram\\(\\);"
            + "|tell\\(x, (?<sort>\\d), (?<text>\"[^)]*)\\);  // (?<number>-?\\d+)"
            + "|x\\.(?<name>\\w+)\\((?<given>[^()]*)\\); *// (?<answer>-?\\d+|true|false)\\b");
    private static final Pattern CALL = Pattern.compile("(?m)^(x\\.\\w+|tell)\\(");

    private final Set<String> shown = new TreeSet<>();
    private GriefTram x = new GriefTram();
    private int examples;

    public static void main(String[] args) throws Exception {
        String readme = Files.readString(Path.of(System.getProperty("readme", "README.md")));
        ReadmeTests tests = new ReadmeTests();
        Matcher block = Pattern.compile("(?s)```java\n(.*?)```").matcher(readme);
        int calls = 0;
        while (block.find()) {
            tests.runExamples(block.group(1));
            Matcher call = CALL.matcher(block.group(1));
            while (call.find()) {
                calls++;
            }
        }
        CHECK.due("examples with an answer", tests.examples, calls);
        tests.everyCallIsShown();
        CHECK.end();
    }

    private void runExamples(String code) throws ReflectiveOperationException {
        Matcher m = EXAMPLE.matcher(code);
        while (m.find()) {
            if (m.group("made") != null) {
                x = new GriefTram();
            } else if (m.group("sort") != null) {
                examples++;
                CHECK.due(m.group(), Check.tell(x, Integer.parseInt(m.group("sort")), textIn(m.group("text"))),
                    Long.parseLong(m.group("number")));
            } else {
                examples++;
                CHECK.due(m.group(), ask(m.group("name"), m.group("given").split(", ")), valueOf(m.group("answer")));
            }
        }
    }

    /** The text of string constants joined by +. */
    private static String textIn(String constants) {
        StringBuilder text = new StringBuilder();
        Matcher m = Pattern.compile("\"([^\"]*)\"").matcher(constants);
        while (m.find()) {
            text.append(m.group(1));
        }
        return text.toString();
    }

    private long ask(String name, String[] given) throws IllegalAccessException, InvocationTargetException {
        shown.add(name);
        Method method = method(name);
        Object[] arguments = new Object[given.length];
        for (int i = 0; i < given.length; i++) {
            boolean isTruth = method.getParameterTypes()[i] == boolean.class;
            arguments[i] = isTruth ? (Object) given[i].equals("true") : (Object) (int) valueOf(given[i]);
        }
        return valueOf(method.invoke(x, arguments).toString());
    }

    private static Method method(String name) {
        for (Method method : GriefTram.class.getDeclaredMethods()) {
            if (method.getName().equals(name)) {
                return method;
            }
        }
        throw new IllegalStateException("no such call: " + name);
    }

    private static long valueOf(String written) {
        switch (written) {
            case "true": return 1;
            case "false": return 0;
            case "GriefTram.NONE": return GriefTram.NONE;
            default: return Long.decode(written);
        }
    }

    private void everyCallIsShown() {
        // a text is told by tell(), which calls end() as well
        shown.add("end");
        for (Method method : GriefTram.class.getDeclaredMethods()) {
            if (Modifier.isPublic(method.getModifiers())) {
                CHECK.due("shown: " + method.getName(), shown.contains(method.getName()), true);
            }
        }
    }
}
