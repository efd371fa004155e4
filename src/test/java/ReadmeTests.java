import java.io.IOException;
import java.lang.reflect.InvocationTargetException;
import java.nio.file.Files;
import java.nio.file.Path;
import java.util.Arrays;
import java.util.Set;
import java.util.TreeSet;
import java.util.regex.Matcher;
import java.util.regex.Pattern;

/**
 * The calls that README.md shows, with the answers that it gives for them: each line of its Java
 * blocks is performed as it stands there.
 */
public final class ReadmeTests {
    private static final Pattern BLOCK = Pattern.compile("(?s)```java\\R(.*?)```");
    private static final Pattern MADE = Pattern.compile("CallNumbers x = new CallNumbers\\((-?\\d+)\\);");
    private static final Pattern TEXT = Pattern.compile("for \\(char c : \"([^\"]*)\"\\.toCharArray\\(\\)\\) \\{");
    private static final Set<String> LOOP = Set.of("x.sign(c);", "}");
    private static final Pattern CALL = Pattern.compile("x\\.(\\w+)\\(((?:-?\\d+(?:, )?)*)\\); +// (.*)");
    private static final Pattern ANSWER = Pattern.compile("(throws \\w+|NONE|'.'|-?\\d+)(?:[ ,].*)?");
    private static final Set<String> FACE = Set.of("read", "part", "letter", "put", "shelf", "take",
            "compare", "before", "free", "spine", "pass");

    private static final Set<String> SHOWN = new TreeSet<>();
    private static CallNumbers x;

    public static void main(String[] args) throws IOException, ReflectiveOperationException {
        Matcher block = BLOCK.matcher(Files.readString(Path.of("README.md")));
        while (block.find()) {
            x = null;
            for (String line : block.group(1).strip().split("\\R")) {
                perform(line.strip());
            }
        }
        if (!SHOWN.equals(FACE)) {
            Answers.fault("README.md shows the calls " + SHOWN + " alone");
        }
        Answers.end();
    }

    private static void perform(String line) throws ReflectiveOperationException {
        Matcher made = MADE.matcher(line);
        Matcher text = TEXT.matcher(line);
        Matcher call = CALL.matcher(line);
        if (made.matches()) {
            x = new CallNumbers(Integer.parseInt(made.group(1)));
        } else if (text.matches()) {
            for (char c : text.group(1).toCharArray()) {
                x.sign(c);
            }
        } else if (call.matches()) {
            SHOWN.add(call.group(1));
            Answers.due(line, ask(call.group(1), call.group(2)), answer(call.group(3)));
        } else if (!LOOP.contains(line)) {
            Answers.fault("README.md has a line that is not understood: " + line);
        }
    }

    private static long ask(String name, String list) throws ReflectiveOperationException {
        Object[] values = list.isEmpty() ? new Object[0]
                : Arrays.stream(list.split(", ")).map(Integer::valueOf).toArray();
        Class<?>[] types = new Class<?>[values.length];
        Arrays.fill(types, int.class);
        try {
            return ((Number) CallNumbers.class.getMethod(name, types).invoke(x, values)).longValue();
        } catch (InvocationTargetException e) {
            if (e.getCause() instanceof ArrayIndexOutOfBoundsException) {
                return Answers.THROWS;
            }
            throw e;
        }
    }

    /** The answer that a comment begins with. */
    private static long answer(String comment) {
        Matcher answer = ANSWER.matcher(comment);
        if (!answer.matches()) {
            throw new IllegalStateException("README.md gives no answer: " + comment);
        }
        String word = answer.group(1);
        if (word.equals("throws ArrayIndexOutOfBoundsException")) {
            return Answers.THROWS;
        }
        if (word.equals("NONE")) {
            return CallNumbers.NONE;
        }
        return word.startsWith("'") ? word.charAt(1) : Long.parseLong(word);
    }
}
