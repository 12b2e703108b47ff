import java.io.IOException;
import java.lang.reflect.Method;
import java.lang.reflect.Modifier;
import java.nio.file.Files;
import java.nio.file.Path;
import java.util.List;
import java.util.regex.Matcher;
import java.util.regex.Pattern;

/** README.md: its samples answer what they tell, and it tells of each call of the face. */
public final class ReadmeTest {
    private static final Path README = Path.of("README.md");
    private static final String NEW_ROW = "NearRanks row = new NearRanks();";
    private static final Pattern TYPING =
        Pattern.compile("for \\(char c : \"([^\"]*)\"\\.toCharArray\\(\\)\\) \\{");
    private static final List<String> TYPING_BODY = List.of("row.type(c);", "}");
    private static final Pattern CALL =
        Pattern.compile("row\\.(\\w+)\\((-?\\d*)\\); +// (-?\\w+)\\b.*");

    private NearRanks row = new NearRanks();
    private int told = 0;

    private ReadmeTest() {
    }

    public static void main(String[] args) throws IOException, ReflectiveOperationException {
        List<String> lines = Files.readAllLines(README);
        ReadmeTest samples = new ReadmeTest();
        samples.play(lines);
        Kit.due("samples were played", samples.told > 0 ? 1 : 0, 1);
        eachCallIsTold(String.join("\n", lines));
        Kit.end();
    }

    private void play(List<String> lines) throws ReflectiveOperationException {
        boolean inSample = false;
        for (String line : lines) {
            if (line.startsWith("```")) {
                inSample = line.equals("```java");
            } else if (inSample) {
                playLine(line.strip());
            }
        }
    }

    private void playLine(String line) throws ReflectiveOperationException {
        Matcher typing = TYPING.matcher(line);
        Matcher call = CALL.matcher(line);
        if (line.startsWith(NEW_ROW)) {
            row = new NearRanks();
        } else if (typing.matches()) {
            Kit.typeText(row, typing.group(1));
        } else if (call.matches()) {
            told++;
            Kit.due(line, answerOf(call.group(1), call.group(2)), numberOf(call.group(3)));
        } else {
            Kit.due("the line of a sample is known", line, TYPING_BODY.contains(line) ? line : "");
        }
    }

    private long answerOf(String name, String argument) throws ReflectiveOperationException {
        for (Method method : NearRanks.class.getMethods()) {
            if (method.getName().equals(name)) {
                return ((Number) method.invoke(row, argumentsOf(method, argument))).longValue();
            }
        }
        throw new NoSuchMethodException(name);
    }

    private static Object[] argumentsOf(Method method, String argument) {
        if (argument.isEmpty()) {
            return new Object[0];
        }
        long value = Long.parseLong(argument);
        boolean isInt = method.getParameterTypes()[0] == int.class;
        return new Object[] {isInt ? (Object) Math.toIntExact(value) : (Object) value};
    }

    private static long numberOf(String text) {
        return text.startsWith("0b") ? Long.parseLong(text.substring(2), 2) : Long.parseLong(text);
    }

    private static void eachCallIsTold(String readme) {
        for (Method method : NearRanks.class.getDeclaredMethods()) {
            if (Modifier.isPublic(method.getModifiers())) {
                String start = "| `" + method.getName() + "(";
                Kit.due(start + " stands in a table", readme.contains(start) ? 1 : 0, 1);
            }
        }
    }
}
