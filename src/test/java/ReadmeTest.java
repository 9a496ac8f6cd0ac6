import java.io.File;
import java.lang.reflect.Method;
import java.lang.reflect.Modifier;
import java.nio.file.Files;
import java.nio.file.Path;
import java.util.regex.Matcher;
import java.util.regex.Pattern;

/** README.md: its examples answer what stands behind them, and every call and every test is named in it. */
public final class ReadmeTest {
    private static final Pattern NEW = Pattern.compile("DrumCrank crank = new DrumCrank\\(\\);");
    private static final Pattern TYPED =
            Pattern.compile("for \\(char c : \"([^\"]*)\"\\.toCharArray\\(\\)\\) crank\\.type\\(c\\);");
    private static final Pattern CALL = Pattern.compile("crank\\.(\\w+)\\(([^)]*)\\); +// (-?\\d+)\\b.*");

    private final Check check = new Check();
    private DrumCrank crank;

    public static void main(String[] args) throws Exception {
        String page = Files.readString(Path.of(System.getProperty("drumcrank.readme", "README.md")));
        ReadmeTest test = new ReadmeTest();
        test.examples(page);
        test.namesEveryCall(page);
        test.namesEveryTest(page);
        test.check.end();
    }

    private void examples(String page) throws Exception {
        int answers = 0;
        Matcher block = Pattern.compile("(?s)```java\n(.*?)```").matcher(page);
        while (block.find()) {
            crank = null;
            for (String line : block.group(1).split("\n")) {
                answers += example(line);
            }
        }
        check.holds("README.md has examples with answers", answers > 0);
    }

    /** Runs one line of an example: how many answers stand behind it. */
    private int example(String line) throws Exception {
        Matcher typed = TYPED.matcher(line);
        Matcher call = CALL.matcher(line);
        if (NEW.matcher(line).matches()) {
            crank = new DrumCrank();
        } else if (crank != null && typed.matches()) {
            for (char c : typed.group(1).toCharArray()) {
                crank.type(c);
            }
        } else if (crank != null && call.matches()) {
            check.due("README.md: " + line, answer(call.group(1), call.group(2)), Long.parseLong(call.group(3)));
            return 1;
        } else {
            check.holds("README.md: a line that this test can run: " + line, false);
        }
        return 0;
    }

    private long answer(String name, String told) throws Exception {
        String[] numbers = told.isEmpty() ? new String[0] : told.split(", ");
        for (Method method : DrumCrank.class.getMethods()) {
            Class<?>[] types = method.getParameterTypes();
            if (method.getName().equals(name) && types.length == numbers.length) {
                Object[] values = new Object[numbers.length];
                for (int i = 0; i < values.length; i++) {
                    long number = Long.parseLong(numbers[i]);
                    values[i] = types[i] == long.class ? (Object) number : (Object) Math.toIntExact(number);
                }
                return ((Number) method.invoke(crank, values)).longValue();
            }
        }
        throw new IllegalStateException("no call " + name + "(" + told + ")");
    }

    /** Each call stands in the table, with as many numbers as it takes. */
    private void namesEveryCall(String page) {
        for (Method method : DrumCrank.class.getDeclaredMethods()) {
            if (Modifier.isPublic(method.getModifiers())) {
                int takes = method.getParameterCount();
                String numbers = takes == 0 ? "" : "\\w+" + ", \\w+".repeat(takes - 1);
                Pattern row = Pattern.compile("(?m)^\\| [^|]*`" + method.getName() + "\\(" + numbers + "\\)`");
                check.holds("README.md has a row for " + method, row.matcher(page).find());
            }
        }
        for (String name : new String[] {"NONE", "BAD", "NO", "FULL"}) {
            check.holds("README.md names " + name, page.contains("`" + name + "` ("));
        }
    }

    private void namesEveryTest(String page) {
        check.holds("README.md names .ci/run", page.contains("\n    .ci/run\n"));
        File[] files = new File(System.getProperty("drumcrank.tests", "src/test/java")).listFiles();
        check.holds("the project has tests", files != null && files.length > 0);
        for (File file : files == null ? new File[0] : files) {
            if (file.getName().endsWith("Test.java")) {
                check.holds("README.md names " + file.getName(), page.contains("src/test/java/" + file.getName()));
            }
        }
    }
}
