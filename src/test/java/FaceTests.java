import java.io.IOException;
import java.lang.reflect.Constructor;
import java.lang.reflect.Field;
import java.lang.reflect.Method;
import java.lang.reflect.Modifier;
import java.nio.file.Files;
import java.nio.file.Path;
import java.util.ArrayList;
import java.util.Arrays;
import java.util.List;
import java.util.Set;
import java.util.TreeSet;
import java.util.regex.Matcher;
import java.util.regex.Pattern;

/** The public face of the document, and what of LANGUAGE.md can be seen from outside. */
public final class FaceTests {
    private static final String[] FACE = {
        "int put(int,long)", "int more(int,int)", "long limb(int,int)", "int add(int,int,int)",
        "int take(int,int,int)", "int times(int,int,long,long,int) ArithmeticException", "int round(int,int,int,int)",
        "int divide(int,int,int) ArithmeticException", "int order(int,int)", "int weight(int,long)",
        "int share(int,int,int)", "int figures(int)", "int figure(int,int) ArrayIndexOutOfBoundsException",
        "int unit(int)", "int print(int)", "int out(int) ArrayIndexOutOfBoundsException", "int feed(int)",
        "int read(int)", "int place()", "int fee(int,int,int)", "int join(int,int,int,int)",
        "int leave(int,int,int,int)", "int give(int,int,int,int)", "int ask(int,int,int,int)", "int see(int,int,int)",
        "int later(int,int,int,int)", "int done()", "int tries()", "int why()"};

    /** What LANGUAGE.md rules out wherever it stands. */
    private static final String[] NOT_IN_THE_TEXT = {
        "package ", "finally", "synchronized", "assert ", "::", "static {", "while (true)", "for (;;)", "getMessage",
        "BigInteger", "BigDecimal", "System.out", "System.err", "currentTimeMillis", "nanoTime", "Random", "Thread"};

    private static final Set<String> IMPORTED = Set.of(
        "java.util.ArrayList", "java.util.List", "java.util.Arrays", "java.util.Iterator", "java.util.NoSuchElementException");

    /** Rule 6; the document itself wants one more to be thrown. */
    private static final Set<String> CAUGHT = Set.of(
        "IllegalStateException", "IllegalArgumentException", "IndexOutOfBoundsException", "ArithmeticException",
        "UnsupportedOperationException", "NoSuchElementException", "RuntimeException");
    private static final String ALSO_THROWN = "ArrayIndexOutOfBoundsException";

    private static int wrong = 0;

    private static void due(String what, Object got, Object want) {
        if (!got.equals(want)) {
            wrong++;
            System.out.println(what + ": " + got + ", due is " + want);
        }
    }

    private static String told(Method method) {
        StringBuilder text = new StringBuilder(method.getReturnType().getSimpleName());
        text.append(' ').append(method.getName()).append('(');
        String comma = "";
        for (Class<?> parameter : method.getParameterTypes()) {
            text.append(comma).append(parameter.getSimpleName());
            comma = ",";
        }
        text.append(')');
        for (Class<?> thrown : method.getExceptionTypes()) {
            text.append(' ').append(thrown.getSimpleName());
        }
        return text.toString();
    }

    private static void theMethods() {
        Set<String> seen = new TreeSet<>();
        Set<String> names = new TreeSet<>();
        for (Method method : ExactMoney.class.getDeclaredMethods()) {
            if (!Modifier.isPrivate(method.getModifiers())) {
                seen.add(told(method));
                names.add(method.getName());
            }
        }
        due("the methods", seen, new TreeSet<>(Arrays.asList(FACE)));
        List<Class<?>> classes = new ArrayList<>(Arrays.asList(ExactMoney.class.getDeclaredClasses()));
        classes.add(ExactMoney.class);
        for (Class<?> each : classes) {
            for (Method method : each.getDeclaredMethods()) {
                boolean isPrivate = Modifier.isPrivate(method.getModifiers());
                due(each + "." + method.getName() + " bears a public one's name", isPrivate && names.contains(method.getName()), false);
                due(method + " has too many parameters", method.getParameterCount() > 7, false);
                due(method + " is a lambda", method.getName().startsWith("lambda$"), false);
            }
        }
    }

    private static void theFields() {
        Set<String> seen = new TreeSet<>();
        for (Field field : ExactMoney.class.getDeclaredFields()) {
            int modifiers = field.getModifiers();
            if (!Modifier.isPrivate(modifiers)) {
                seen.add(Modifier.toString(modifiers) + " " + field.getType() + " " + field.getName());
            }
            due(field + " is static and not final", Modifier.isStatic(modifiers) && !Modifier.isFinal(modifiers), false);
        }
        Set<String> want = new TreeSet<>();
        for (String name : new String[] {"BAD", "OVER", "LESS", "NONE"}) {
            want.add("public static final int " + name);
        }
        due("the constants", seen, want);
    }

    private static void theClasses() {
        due("the class", Modifier.toString(ExactMoney.class.getModifiers()), "public final");
        Constructor<?>[] constructors = ExactMoney.class.getDeclaredConstructors();
        due("constructors", constructors.length, 1);
        due("the constructor", Modifier.isPublic(constructors[0].getModifiers()), true);
        due("its parameters", constructors[0].getParameterCount(), 0);
        for (Class<?> inner : ExactMoney.class.getDeclaredClasses()) {
            int modifiers = inner.getModifiers();
            due(inner + " is static", Modifier.isStatic(modifiers), true);
            due(inner + " is hidden", Modifier.isPublic(modifiers) || Modifier.isProtected(modifiers), false);
        }
        due("too many classes", ExactMoney.class.getDeclaredClasses().length > 11, false);
    }

    private static void theText() throws IOException {
        String text = Files.readString(Path.of("src/main/java/ExactMoney.java"));
        String code = text.replaceAll("(?s)/\\*.*?\\*/", "").replaceAll("//[^\n]*", "");
        for (String word : NOT_IN_THE_TEXT) {
            due("'" + word + "' in the text", code.contains(word), false);
        }
        due("a character beyond 255", text.chars().anyMatch(c -> c > 255), false);
        due("a call of Math that ends in Exact", Pattern.compile("\\b(Math|Integer|Long)\\.\\w+Exact\\(").matcher(code).find(), false);
        for (String name : found("import ([\\w.*]+)", code)) {
            due("an import of " + name, IMPORTED.contains(name), true);
        }
        for (String name : found("catch \\((?:final )?([\\w |]+) \\w+\\)", code)) {
            due("a catch of " + name, CAUGHT.contains(name), true);
        }
        for (String name : found("throw new (\\w+)", code)) {
            due("a throw of " + name, CAUGHT.contains(name) || name.equals(ALSO_THROWN), true);
        }
    }

    private static List<String> found(String pattern, String code) {
        List<String> found = new ArrayList<>();
        Matcher matcher = Pattern.compile(pattern).matcher(code);
        while (matcher.find()) {
            found.add(matcher.group(1));
        }
        return found;
    }

    public static void main(String[] args) throws IOException {
        theMethods();
        theFields();
        theClasses();
        theText();
        System.out.println(wrong == 0 ? "the face is as due" : wrong + " wrong");
        if (wrong != 0) {
            System.exit(1);
        }
    }
}
