import java.io.IOException;
import java.io.UncheckedIOException;
import java.lang.reflect.Method;
import java.nio.file.Files;
import java.nio.file.Path;
import java.util.regex.Matcher;
import java.util.regex.Pattern;

/** The example of README.md, line by line: each call answers the number that its comment begins with. */
public final class ReadmeTests {
    private static final Pattern BLOCK = Pattern.compile("```java\n(.*?)```", Pattern.DOTALL);
    private static final Pattern TEXT = Pattern.compile("for \\(char sign : \"(.*)\"\\.toCharArray\\(\\)\\) \\{");
    private static final Pattern CALL = Pattern.compile("piece\\.(\\w+)\\((.*?)\\); +// (-?[0-9]+(?:\\.[0-9]+)?).*");

    public static void main(String[] args) {
        Checks checks = new Checks();
        checks.test("README: the example answers what it tells", ReadmeTests::example);
        checks.test("README: every call is named", ReadmeTests::names);
        checks.end();
    }

    private static String readme() {
        try {
            return Files.readString(Path.of("README.md"));
        } catch (IOException thrown) {
            throw new UncheckedIOException(thrown);
        }
    }

    private static void example(Checks checks) {
        Matcher block = BLOCK.matcher(readme());
        checks.due("README has an example", block.find() ? 1 : 0, 1);
        LeanSticks piece = new LeanSticks();
        int calls = 0;
        for (String line : block.group(1).split("\n")) {
            Matcher text = TEXT.matcher(line);
            Matcher call = CALL.matcher(line);
            if (text.matches()) {
                append(piece, text.group(1));
            } else if (call.matches()) {
                checks.due(line, answer(piece, call.group(1), call.group(2)), Double.parseDouble(call.group(3)));
                calls++;
            } else {
                checks.due(line, isKnown(line.trim()) ? "known" : "not understood", "known");
            }
        }
        checks.due("calls with an answer", calls > 0 ? 1 : 0, 1);
    }

    private static boolean isKnown(String line) {
        return line.equals("LeanSticks piece = new LeanSticks();") || line.equals("piece.append(sign);")
                || line.equals("}");
    }

    private static void append(LeanSticks piece, String text) {
        for (char sign : text.toCharArray()) {
            piece.append(sign);
        }
    }

    private static double answer(LeanSticks piece, String name, String told) {
        String[] words = told.isEmpty() ? new String[0] : told.split(", ");
        for (Method method : LeanSticks.class.getMethods()) {
            if (method.getName().equals(name) && method.getParameterCount() == words.length) {
                return invoked(piece, method, words);
            }
        }
        throw new IllegalArgumentException("no such call: " + name);
    }

    private static double invoked(LeanSticks piece, Method method, String[] words) {
        Object[] arguments = new Object[words.length];
        for (int place = 0; place < words.length; place++) {
            boolean isFlag = method.getParameterTypes()[place] == boolean.class;
            arguments[place] = isFlag ? (Object) Boolean.valueOf(words[place]) : (Object) Integer.valueOf(words[place]);
        }
        try {
            return ((Number) method.invoke(piece, arguments)).doubleValue();
        } catch (ReflectiveOperationException thrown) {
            throw new IllegalStateException(thrown);
        }
    }

    private static void names(Checks checks) {
        String readme = readme();
        for (Method method : LeanSticks.class.getDeclaredMethods()) {
            if ((method.getModifiers() & java.lang.reflect.Modifier.PUBLIC) != 0) {
                boolean isNamed = Pattern.compile("`" + method.getName() + "[`(]").matcher(readme).find();
                checks.due(method.getName() + " is named", isNamed ? 1 : 0, 1);
            }
        }
    }
}
