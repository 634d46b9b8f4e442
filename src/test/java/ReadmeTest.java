import java.io.IOException;
import java.lang.reflect.Method;
import java.nio.file.Files;
import java.nio.file.Path;
import java.util.HashMap;
import java.util.Map;
import java.util.regex.Matcher;
import java.util.regex.Pattern;

/** Plays the example of README.md line by line; each must answer what its comment begins with. */
public final class ReadmeTest {
    private static final Pattern BLOCK = Pattern.compile("(?s)```java\n(.*?)```");
    private static final Pattern LINE =
        Pattern.compile("(?:int (\\w+) = )?text\\.(\\w+)\\((.*?)\\); *// ([^ :]+).*");
    private static final String FIRST_LINE = "TombstoneText text = new TombstoneText();";

    private static final Check CHECK = new Check("ReadmeTest");

    private final TombstoneText text = new TombstoneText();
    private final Map<String, Integer> numbers = new HashMap<>();

    public static void main(String[] args) throws IOException, ReflectiveOperationException {
        Matcher block = BLOCK.matcher(Files.readString(Path.of("README.md")));
        CHECK.due("there is an example", block.find(), true);
        ReadmeTest test = new ReadmeTest();
        String[] lines = block.group(1).split("\n");
        CHECK.due("first line", lines[0], FIRST_LINE);
        for (int i = 1; i < lines.length; i++) {
            test.play(lines[i]);
        }
        CHECK.end();
    }

    private void play(String line) throws ReflectiveOperationException {
        Matcher matcher = LINE.matcher(line);
        CHECK.due("is a call with its answer: " + line, matcher.matches(), true);
        String[] arguments = matcher.group(3).split(", ");
        Method method = methodOf(matcher.group(2));
        Object[] values = new Object[arguments.length];
        for (int i = 0; i < values.length; i++) {
            values[i] = valueOf(arguments[i]);
            if (method.getParameterTypes()[i] == char.class) {
                values[i] = arguments[i].charAt(1);
            }
        }
        Object answer = method.invoke(text, values);
        int got = answer instanceof Boolean is ? (is ? 1 : 0) : (Integer) answer;
        CHECK.due(line, got, valueOf(matcher.group(4)));
        if (matcher.group(1) != null) {
            numbers.put(matcher.group(1), got);
        }
    }

    private static Method methodOf(String name) throws NoSuchMethodException {
        for (Method method : TombstoneText.class.getMethods()) {
            if (method.getName().equals(name)) {
                return method;
            }
        }
        throw new NoSuchMethodException(name);
    }

    private int valueOf(String word) {
        return switch (word) {
            case "true" -> 1;
            case "false" -> 0;
            case "BAD" -> TombstoneText.BAD;
            case "FULL" -> TombstoneText.FULL;
            default -> word.startsWith("'") ? word.charAt(1)
                : numbers.containsKey(word) ? numbers.get(word) : Integer.parseInt(word);
        };
    }
}
