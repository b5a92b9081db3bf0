import java.lang.reflect.Method;
import java.lang.reflect.Modifier;
import java.nio.file.Files;
import java.nio.file.Path;
import java.util.HashMap;
import java.util.Map;
import java.util.Set;
import java.util.TreeSet;
import java.util.regex.Matcher;
import java.util.regex.Pattern;

/**
 * The calls that README.md shows answer what it shows behind them, each call of the class is among
 * them, and its list of calls is that of the document's face.
 */
public final class ReadmeTest {
    private static final Due due = new Due("ReadmeTest");
    private static final Pattern BLOCK = Pattern.compile("(?s)```java\n(.*?)```");
    private static final Pattern CALL = Pattern.compile(
            "(?:int (\\w+) = )?judge\\.(\\w+)\\(([^()]*)\\); +// (-?\\d+|BAD|NONE|TWO|FULL)(?::.*)?");
    private static final Pattern LISTED = Pattern.compile("(?m)^\\| `(\\w+\\([^)]*\\))` \\|");
    private static final Pattern PROMISED = Pattern.compile("(?m)^`int (\\w+\\([^)]*\\))`:");
    private static final Map<String, Integer> values = new HashMap<>();
    private static final Set<String> shown = new TreeSet<>();
    private static AccessJudge judge;

    /** The third argument is README's path, the second one the document's. */
    public static void main(String[] args) throws Exception {
        String readme = Files.readString(Path.of(args.length > 2 ? args[2] : "README.md"));
        Matcher blocks = BLOCK.matcher(readme);
        while (blocks.find()) {
            for (String line : blocks.group(1).split("\n")) {
                hold(line);
            }
        }
        due.holds("each call is shown: " + shown, shown.equals(callsOfTheClass()));
        if (args.length > 1) {
            String document = Files.readString(Path.of(args[1]));
            due.holds("the list of calls is the document's",
                    found(LISTED, readme).equals(found(PROMISED, document)));
        }
        due.end();
    }

    private static void hold(String line) throws Exception {
        Matcher call = CALL.matcher(line);
        if (line.equals("AccessJudge judge = new AccessJudge();")) {
            judge = new AccessJudge();
            values.clear();
        } else if (call.matches() && judge != null) {
            int got = run(call.group(2), call.group(3));
            due.is("README: " + line.substring(0, line.indexOf(';')), got, answer(call.group(4)));
            values.put(call.group(1), got);
        } else {
            due.holds("README's line is a call with its answer: " + line, line.isBlank());
        }
    }

    private static int run(String name, String arguments) throws Exception {
        shown.add(name);
        String[] words = arguments.isEmpty() ? new String[0] : arguments.split(", ");
        Class<?>[] kinds = new Class<?>[words.length];
        Object[] numbers = new Object[words.length];
        for (int i = 0; i < words.length; i++) {
            kinds[i] = int.class;
            numbers[i] = values.containsKey(words[i]) ? values.get(words[i])
                    : Integer.valueOf(words[i]);
        }
        return (Integer) AccessJudge.class.getMethod(name, kinds).invoke(judge, numbers);
    }

    private static int answer(String word) throws Exception {
        return Character.isLetter(word.charAt(0)) ? AccessJudge.class.getField(word).getInt(null)
                : Integer.parseInt(word);
    }

    private static Set<String> callsOfTheClass() {
        Set<String> all = new TreeSet<>();
        for (Method m : AccessJudge.class.getDeclaredMethods()) {
            if (Modifier.isPublic(m.getModifiers())) {
                all.add(m.getName());
            }
        }
        return all;
    }

    private static Set<String> found(Pattern pattern, String text) {
        Set<String> all = new TreeSet<>();
        Matcher matcher = pattern.matcher(text);
        while (matcher.find()) {
            all.add(matcher.group(1));
        }
        return all;
    }
}
