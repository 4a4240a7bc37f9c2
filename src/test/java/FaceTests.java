import java.lang.reflect.Constructor;
import java.lang.reflect.Field;
import java.lang.reflect.Method;
import java.lang.reflect.Modifier;
import java.nio.file.Files;
import java.nio.file.Path;
import java.util.Arrays;
import java.util.HashSet;
import java.util.List;
import java.util.Set;
import java.util.TreeSet;
import java.util.regex.Matcher;
import java.util.regex.Pattern;

/** The public face as the document has it, and such rules of LANGUAGE.md as can be seen from outside. */
public final class FaceTests {
    private static final Check CHECK = new Check("FaceTests");
    private static final List<String> FACE = List.of(
        "int feed(int,int,int,int,int)", "int end(int)", "int text(int,int)", "int fault(int)", "int line(int,int)",
        "int deed(int,int,int)", "int stop(int,int)", "int state(int,int,int,int)", "int comes(int,int,int)",
        "int up(int,int)", "int rounds(int,int)", "int calm(int,int,int,int)", "int couples(int,int,boolean)",
        "int flow(int,int)", "int leaves(int,int)", "int fact(int,int,int)", "int fits(int,int)",
        "int fare(int,int,int,int)", "int route(int,int)", "int drawn(int,int,int,int)", "int plea(int,int)",
        "int bears(int,int,int)", "int spared(int,int)", "int against(int,int)", "int sets(int,int)",
        "int byTurns(int,int,int)", "int news(int,int)", "int slack(int,int,boolean)", "long orders(int,int)",
        "int halves(int,boolean)", "int count(int)", "boolean image(int)", "boolean again(int)");

    public static void main(String[] args) throws Exception {
        face();
        classesInside();
        source(Files.readString(Path.of(System.getProperty("source", "src/main/java/GriefTram.java"))));
        CHECK.end();
    }

    private static void face() {
        Class<GriefTram> c = GriefTram.class;
        CHECK.due("public and final", c.getModifiers(), Modifier.PUBLIC | Modifier.FINAL);
        Set<String> seen = new TreeSet<>();
        for (Method m : c.getDeclaredMethods()) {
            if (!Modifier.isPrivate(m.getModifiers())) {
                CHECK.due("public alone: " + m, m.getModifiers(), Modifier.PUBLIC);
                String types = String.join(",", Arrays.stream(m.getParameterTypes()).map(Class::getName).toList());
                seen.add(m.getReturnType() + " " + m.getName() + "(" + types + ")");
            }
        }
        CHECK.due("the methods: " + seen, seen.equals(new TreeSet<>(FACE)), true);
        for (Field f : c.getDeclaredFields()) {
            boolean isNone = f.getName().equals("NONE");
            CHECK.due("field " + f, Modifier.isPrivate(f.getModifiers()), !isNone);
            CHECK.due("static is final: " + f, !Modifier.isStatic(f.getModifiers()) || Modifier.isFinal(f.getModifiers()), true);
        }
        CHECK.due("constructors", c.getDeclaredConstructors().length, 1);
        for (Constructor<?> made : c.getDeclaredConstructors()) {
            CHECK.due("constructor " + made, made.getModifiers(), Modifier.PUBLIC);
            CHECK.due("its parameters", made.getParameterCount(), 0);
        }
    }

    private static void classesInside() {
        Set<String> names = new HashSet<>();
        for (String method : FACE) {
            names.add(method.substring(method.indexOf(' ') + 1, method.indexOf('(')));
        }
        Class<?>[] inside = GriefTram.class.getDeclaredClasses();
        CHECK.due("some twelve classes", inside.length + 1 <= 12, true);
        for (Class<?> c : inside) {
            CHECK.due("static: " + c, Modifier.isStatic(c.getModifiers()), true);
            CHECK.due("not public: " + c, Modifier.isPublic(c.getModifiers()) || Modifier.isProtected(c.getModifiers()), false);
            int fields = 0;
            for (Field f : c.getDeclaredFields()) {
                fields += Modifier.isStatic(f.getModifiers()) ? 0 : 1;
            }
            CHECK.due("some twenty fields: " + c, fields <= 20, true);
            for (Method m : c.getDeclaredMethods()) {
                CHECK.due("no public name: " + m, names.contains(m.getName()), false);
                CHECK.due("seven parameters: " + m, m.getParameterCount() <= 7, true);
            }
        }
    }

    private static void source(String text) {
        String code = text.replaceAll("(?s)/\\*.*?\\*/", "").replaceAll("//[^\n]*", "").replaceAll("\"[^\"]*\"", "\"\"");
        String[] words = {"throw", "throws", "try", "catch", "synchronized", "assert", "import", "package", "HashMap",
            "instanceof", "equals", "hashCode", "toString", "Object", "lambda", "var", "float", "double", "random"};
        for (String word : words) {
            CHECK.due("no " + word, Pattern.compile("\\b" + word + "\\b").matcher(code).find(), false);
        }
        for (String sign : new String[] {"->", "::", "\"\" +", "+ \"\"", "Exact("}) {
            CHECK.due("no " + sign, code.contains(sign), false);
        }
        Matcher calls = Pattern.compile("\\b(Math|Integer|Long|System|Arrays)\\.(\\w+)").matcher(code);
        List<String> library = List.of("Math.max", "Math.min", "Math.abs", "Integer.bitCount",
            "Integer.numberOfTrailingZeros", "System.arraycopy");
        while (calls.find()) {
            CHECK.due("library: " + calls.group(), library.contains(calls.group()), true);
        }
        int lines = 0;
        for (String line : code.split("\n")) {
            // a method of a class inside stands at eight blanks, one of the class itself at four
            lines = line.matches("( {4}| {8})\\}.*") ? 0 : lines + 1;
            CHECK.due("short methods, at: " + line, lines <= 80, true);
        }
    }
}
