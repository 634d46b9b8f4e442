import java.io.IOException;
import java.lang.reflect.Field;
import java.lang.reflect.Method;
import java.lang.reflect.Modifier;
import java.nio.file.Files;
import java.nio.file.Path;
import java.util.ArrayDeque;
import java.util.ArrayList;
import java.util.Arrays;
import java.util.Deque;
import java.util.List;
import java.util.TreeSet;
import java.util.regex.Matcher;
import java.util.regex.Pattern;

/** Those rules of ../shared/LANGUAGE.md that a look at the source and its classes can tell. */
public final class LanguageTest {
    private static final Path SOURCE = Path.of("src/main/java/TombstoneText.java");
    private static final int MOST_LINES = 60;
    private static final int MOST_PARAMETERS = 7;
    private static final int MOST_CLASSES = 12;
    private static final int MOST_FIELDS = 20;
    /** The document names no exception, so none is thrown; the others the rules leave out. */
    private static final String[] LEFT_OUT = {"package", "import", "throw", "try", "catch", "finally",
        "synchronized", "assert", "volatile", "native", "double", "float", "->", "::", "protected"};
    private static final String[] NAMES = {"Log", "Math", "Replica", "TombstoneText"};
    private static final String[] OF_MATH = {"Math.max", "Math.min"};

    private static final Check CHECK = new Check("LanguageTest");

    public static void main(String[] args) throws IOException {
        String source = Files.readString(SOURCE);
        String code = withoutComments(source);
        plainCharacters(source);
        wordsLeftOut(code);
        CHECK.due("names of classes", found(code, "\\b[A-Z]\\w*[a-z]\\w*").toString(), inOrder(NAMES));
        CHECK.due("functions of Math", found(code, "Math\\.\\w+").toString(), inOrder(OF_MATH));
        CHECK.due("no texts are joined", code.indexOf('"'), -1);
        methodsAreShort(code);
        List<Class<?>> classes = new ArrayList<>(List.of(TombstoneText.class.getDeclaredClasses()));
        classes.add(TombstoneText.class);
        CHECK.due("few classes", classes.size() <= MOST_CLASSES, true);
        for (Class<?> one : classes) {
            fieldsAreInOrder(one);
            parametersAreFew(one);
        }
        CHECK.end();
    }

    private static String withoutComments(String source) {
        return source.replaceAll("(?s)/\\*.*?\\*/", "").replaceAll("//.*", "");
    }

    private static void plainCharacters(String source) {
        CHECK.due("all characters are plain", source.chars().allMatch(c -> c == '\n' || c >= 32 && c <= 126), true);
    }

    private static void wordsLeftOut(String code) {
        for (String word : LEFT_OUT) {
            boolean isWord = Character.isLetter(word.charAt(0));
            String pattern = isWord ? "\\b" + word + "\\b" : Pattern.quote(word);
            CHECK.due("uses " + word, Pattern.compile(pattern).matcher(code).find(), false);
        }
    }

    private static TreeSet<String> found(String code, String pattern) {
        TreeSet<String> names = new TreeSet<>();
        Matcher matcher = Pattern.compile(pattern).matcher(code);
        while (matcher.find()) {
            names.add(matcher.group());
        }
        return names;
    }

    private static String inOrder(String[] names) {
        return new TreeSet<>(Arrays.asList(names)).toString();
    }

    private static void methodsAreShort(String code) {
        Deque<Integer> starts = new ArrayDeque<>();
        int longest = 0;
        int line = 1;
        int blocks = 0;
        int headStart = 0;
        for (int i = 0; i < code.length(); i++) {
            char c = code.charAt(i);
            if (c == '\n') {
                line++;
            } else if (c == '{') {
                boolean isClass = code.substring(headStart, i).matches("(?s).*\\bclass\\b.*");
                starts.push(isClass ? Integer.MAX_VALUE : line);
            } else if (c == '}') {
                int start = starts.pop();
                longest = Math.max(longest, start == Integer.MAX_VALUE ? 0 : line - start + 1);
                blocks++;
            }
            if (c == '{' || c == '}' || c == ';') {
                headStart = i + 1;
            }
        }
        CHECK.due("blocks were found", blocks > 50, true);
        CHECK.due("the longest block, " + longest + " lines, is short", longest <= MOST_LINES, true);
    }

    private static void fieldsAreInOrder(Class<?> one) {
        int fields = 0;
        for (Field field : one.getDeclaredFields()) {
            boolean isStatic = Modifier.isStatic(field.getModifiers());
            fields += isStatic ? 0 : 1;
            if (isStatic) {
                CHECK.due(field + " is final", Modifier.isFinal(field.getModifiers()), true);
                CHECK.due(field + " is a plain constant", field.getType().isPrimitive(), true);
            }
        }
        CHECK.due(one.getName() + " has few fields", fields <= MOST_FIELDS, true);
    }

    private static void parametersAreFew(Class<?> one) {
        for (Method method : one.getDeclaredMethods()) {
            CHECK.due(method + " has few parameters", method.getParameterCount() <= MOST_PARAMETERS, true);
        }
    }
}
