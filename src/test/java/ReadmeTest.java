import java.io.File;
import java.lang.reflect.Method;
import java.lang.reflect.Modifier;
import java.nio.file.Files;
import java.nio.file.Path;
import java.util.HashMap;
import java.util.Map;
import java.util.regex.Matcher;
import java.util.regex.Pattern;

/** README.md: its example is run line by line, and each answer told there is due; no call and no test is left out. */
public final class ReadmeTest {
    private static final Pattern NEW = Pattern.compile("HeronsBench (\\w+) = new HeronsBench\\(\\);.*");
    private static final Pattern CALL = Pattern.compile(
        "(?:int (\\w+) = )?(\\w+)\\.(\\w+)\\(([^)]*)\\);\\s*(?://(?: = (-?\\d+))?.*)?");

    private static int wrong = 0;
    private static int answers = 0;

    private final Map<String, HeronsBench> benches = new HashMap<>();
    private final Map<String, Integer> numbers = new HashMap<>(Map.of("HeronsBench.NONE", HeronsBench.NONE));

    private static void fault(String what) {
        wrong++;
        System.out.println(what);
    }

    public static void main(String[] args) throws Exception {
        String text = Files.readString(Path.of("README.md"));
        Matcher block = Pattern.compile("(?s)```java\n(.*?)```").matcher(text);
        ReadmeTest test = new ReadmeTest();
        while (block.find()) {
            for (String line : block.group(1).split("\n")) {
                test.play(line.trim());
            }
        }
        if (answers == 0) {
            fault("README.md tells no answer of a call");
        }
        namesEachCall(text);
        namesEachTest(text);
        System.out.println("the README: " + answers + " answers told, " + wrong + " faults");
        if (wrong != 0) {
            System.exit(1);
        }
    }

    private void play(String line) throws Exception {
        Matcher made = NEW.matcher(line);
        Matcher call = CALL.matcher(line);
        if (line.isEmpty()) {
            return;
        }
        if (made.matches()) {
            benches.put(made.group(1), new HeronsBench());
        } else if (call.matches() && benches.containsKey(call.group(2))) {
            long answer = answer(benches.get(call.group(2)), call.group(3), call.group(4).split(",\\s*"));
            if (call.group(1) != null) {
                numbers.put(call.group(1), (int) answer);
            }
            check(line, answer, call.group(5));
        } else {
            fault("README.md has a line that this test can't run: " + line);
        }
    }

    private static void check(String line, long got, String told) {
        if (told != null) {
            answers++;
            if (got != Long.parseLong(told)) {
                fault("README.md tells another answer than " + got + ": " + line);
            }
        } else if (got < 0) {
            fault("README.md does not tell that this is refused: " + line);
        }
    }

    private long answer(HeronsBench bench, String name, String[] words) throws Exception {
        for (Method method : HeronsBench.class.getMethods()) {
            if (method.getName().equals(name)) {
                Object[] given = new Object[method.getParameterCount()];
                for (int i = 0; i < given.length; i++) {
                    given[i] = number(words[i]);
                }
                return ((Number) method.invoke(bench, given)).longValue();
            }
        }
        throw new IllegalArgumentException("README.md names no such call: " + name);
    }

    private int number(String word) {
        return numbers.containsKey(word) ? numbers.get(word) : Integer.parseInt(word);
    }

    private static void namesEachCall(String text) {
        for (Method method : HeronsBench.class.getDeclaredMethods()) {
            if (Modifier.isPublic(method.getModifiers()) && !text.contains("`" + method.getName() + "`")) {
                fault("README.md does not name the call " + method.getName());
            }
        }
    }

    private static void namesEachTest(String text) {
        String[] files = new File("src/test/java").list();
        for (String file : files == null ? new String[0] : files) {
            if (file.endsWith("Test.java") && !text.contains("`" + file.replace(".java", "") + "`")) {
                fault("README.md does not name the test " + file);
            }
        }
        if (!text.contains(".ci/run")) {
            fault("README.md does not tell how the tests are run");
        }
    }
}
