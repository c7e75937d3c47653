import java.io.IOException;
import java.lang.reflect.InvocationTargetException;
import java.lang.reflect.Method;
import java.lang.reflect.Modifier;
import java.nio.file.Files;
import java.nio.file.Path;
import java.util.List;
import java.util.regex.Matcher;
import java.util.regex.Pattern;

/**
 * Runs the examples of README.md, so that what a user is shown stays true: each line is a call
 * with its answer, but for the two helpers, which stand below word for word.
 */
public final class ReadmeTests {
    private static final Pattern CALL =
            Pattern.compile("money\\.(\\w+)\\(([^;]*)\\); +// (-?\\d+|throws \\w+)(: .*)?");

    private static int checks = 0;
    private static int wrong = 0;

    public static void main(String[] args) throws IOException, IllegalAccessException {
        List<String> readme = Files.readAllLines(Path.of("README.md"));
        runExamples(readme);
        everyCallIsNamed(String.join("\n", readme));
        helpersStandWordForWord(String.join("\n", readme));
        helpersDoWhatIsSaid();
        System.out.println(checks + " checks, " + wrong + " wrong");
        if (wrong > 0) {
            System.exit(1);
        }
    }

    private static void due(String what, Object got, Object want) {
        checks++;
        if (!got.equals(want)) {
            wrong++;
            System.out.println("README.md: " + what + " answered " + got + ", due is " + want);
        }
    }

    private static void runExamples(List<String> readme) throws IllegalAccessException {
        ExactMoney money = null;
        int examples = 0;
        for (String line : readme) {
            if (line.equals("ExactMoney money = new ExactMoney();")) {
                money = new ExactMoney();
                examples++;
            } else if (line.startsWith("money.")) {
                runLine(money, line);
            }
        }
        due("the number of examples", examples, 4);
    }

    private static void runLine(ExactMoney money, String line) throws IllegalAccessException {
        Matcher call = CALL.matcher(line);
        boolean isCall = call.matches();
        due(line + " (as a call with its answer)", isCall, true);
        if (isCall) {
            due(line, answerOf(money, call.group(1), call.group(2)), call.group(3));
        }
    }

    private static String answerOf(ExactMoney money, String name, String numbers) throws IllegalAccessException {
        Method method = methodOf(name);
        if (method == null) {
            return "no such call";
        }
        String[] texts = numbers.isEmpty() ? new String[0] : numbers.split(", ");
        Object[] values = new Object[texts.length];
        for (int i = 0; i < texts.length; i++) {
            values[i] = valueOf(texts[i], method.getParameterTypes()[i]);
        }
        try {
            return method.invoke(money, values).toString();
        } catch (InvocationTargetException thrown) {
            return "throws " + thrown.getCause().getClass().getSimpleName();
        }
    }

    private static Object valueOf(String text, Class<?> type) {
        long value = text.startsWith("'") ? text.charAt(1) : Long.parseLong(text);
        if (type == int.class) {
            return (int) value;
        }
        return value;
    }

    private static Method methodOf(String name) {
        for (Method method : ExactMoney.class.getDeclaredMethods()) {
            if (Modifier.isPublic(method.getModifiers()) && method.getName().equals(name)) {
                return method;
            }
        }
        return null;
    }

    /** Each call has a place in one of the tables, with as many parameters as it has. */
    private static void everyCallIsNamed(String readme) {
        for (Method method : ExactMoney.class.getDeclaredMethods()) {
            if (Modifier.isPublic(method.getModifiers())) {
                Matcher named = Pattern.compile("(?m)^\\|.*`" + method.getName() + "\\(([^)]*)\\)`").matcher(readme);
                boolean isNamed = named.find();
                due(method.getName() + " in a table", isNamed, true);
                if (isNamed) {
                    int parameters = named.group(1).isEmpty() ? 0 : named.group(1).split(", ").length;
                    due("the parameters of " + method.getName(), parameters, method.getParameterCount());
                }
            }
        }
    }

    private static void helpersStandWordForWord(String readme) throws IOException {
        String test = Files.readString(Path.of("src/test/java/ReadmeTests.java"));
        int begin = readme.indexOf("static String textOf");
        int end = readme.indexOf("```", Math.max(begin, 0));
        due("the helpers of the text in ReadmeTests",
                begin >= 0 && end > begin && unindented(test).contains(readme.substring(begin, end).stripTrailing()), true);
    }

    private static String unindented(String text) {
        return text.replaceAll("(?m)^    ", "");
    }

    private static void helpersDoWhatIsSaid() {
        ExactMoney money = new ExactMoney();
        due("readText of 12,345.67", readText(money, "12,345.67", 0), 1);
        due("textOf after it", textOf(money, 0), "12,345.67");
        due("readText with a character above 255", readText(money, "12\u20ac.00", 1), -11);
        due("its place", money.place(), 2);
        due("textOf after it", textOf(money, 1), "0.00");
        ExactMoney other = new ExactMoney();
        due("readText of 130 figures", readText(other, "1".repeat(130), 1), -11);
        due("its place", other.place(), 120);
        due("readText of 119 figures and a point", readText(other, "1".repeat(119) + ".00", 1), -11);
        due("readText of 117 figures, a point and all behind it", readText(other, "1".repeat(117) + ".00", 1), -12);
        due("the tape after it", other.feed('1'), 1);
    }

    // These two are those of README.md.

    static String textOf(ExactMoney money, int register) {
        int length = money.print(register);
        StringBuilder text = new StringBuilder();
        for (int i = 0; i < length; i++) {
            text.append((char) money.out(i));
        }
        return text.toString();
    }

    /** No TEXT of a SUM comes near 120 bytes: what does not fit on THE TAPE is a fault in any case. */
    static int readText(ExactMoney money, String text, int register) {
        for (int i = 0; i < text.length(); i++) {
            char c = text.charAt(i);
            money.feed(c <= 255 ? c : '?');
        }
        return money.read(register);
    }
}
