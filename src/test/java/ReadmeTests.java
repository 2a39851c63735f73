import java.lang.reflect.InvocationTargetException;
import java.lang.reflect.Method;
import java.lang.reflect.Modifier;
import java.nio.file.Files;
import java.nio.file.Path;
import java.util.TreeSet;
import java.util.regex.Matcher;
import java.util.regex.Pattern;

/** README.md's examples answer what stands behind them there, and no call of the face is missing from it. */
public final class ReadmeTests {
    private static final String NEW_OBJECT = "CharacterRows rows = new CharacterRows();";
    private static final Pattern CALL = Pattern.compile("rows\\.(\\w+)\\((.*)\\);(?:\\s*// (.*))?");
    private static final Pattern NUMBER = Pattern.compile("-?\\d+|'.'");

    private static int wrong = 0;
    private static final TreeSet<String> called = new TreeSet<>();

    private static void fault(String what) {
        wrong++;
        System.out.println("README.md: " + what);
    }

    private static Method methodOfFace(String name) {
        for (Method m : CharacterRows.class.getDeclaredMethods()) {
            if (Modifier.isPublic(m.getModifiers()) && m.getName().equals(name)) {
                return m;
            }
        }
        throw new IllegalStateException("the face has no " + name);
    }

    /** An argument as it is written there: a number or a plain character, with or without a cast to byte. */
    private static Object argument(String written) {
        String bare = written.trim();
        boolean isByte = bare.startsWith("(byte) ");
        bare = isByte ? bare.substring("(byte) ".length()) : bare;
        if (!NUMBER.matcher(bare).matches()) {
            throw new IllegalStateException("not an argument: " + written);
        }
        int value = bare.startsWith("'") ? bare.charAt(1) : Integer.parseInt(bare);
        return isByte ? (Object) (byte) value : (Object) value;
    }

    private static String answer(CharacterRows rows, Method method, String arguments) throws Exception {
        String[] written = arguments.split(",");
        Object[] values = new Object[written.length];
        for (int i = 0; i < written.length; i++) {
            values[i] = argument(written[i]);
        }
        try {
            return String.valueOf(method.invoke(rows, values));
        } catch (InvocationTargetException e) {
            return "throws " + e.getCause().getClass().getSimpleName();
        }
    }

    private static void checkCall(CharacterRows rows, String line) throws Exception {
        Matcher call = CALL.matcher(line);
        if (!call.matches()) {
            fault("not a call: " + line);
            return;
        }
        called.add(call.group(1));
        Method method = methodOfFace(call.group(1));
        String got = answer(rows, method, call.group(2));
        boolean silent = method.getReturnType() == void.class;
        String remark = call.group(3) == null ? "" : call.group(3);
        String due = silent ? "null" : remark.startsWith("throws ") ? remark : remark.split(":")[0];
        if (!got.equals(due)) {
            fault(line + " answered " + got);
        }
    }

    private static void checkExamples(String readme) throws Exception {
        Matcher block = Pattern.compile("```java\n(.*?)```", Pattern.DOTALL).matcher(readme);
        while (block.find()) {
            CharacterRows rows = null;
            for (String line : block.group(1).split("\n")) {
                if (line.equals(NEW_OBJECT)) {
                    rows = new CharacterRows();
                } else if (!line.isBlank()) {
                    checkCall(rows, line);
                }
            }
        }
    }

    private static void checkNoneIsMissing(String readme) {
        for (Method m : CharacterRows.class.getDeclaredMethods()) {
            if (!Modifier.isPublic(m.getModifiers())) {
                continue;
            }
            if (!called.contains(m.getName())) {
                fault("no example calls " + m.getName());
            }
            if (!readme.contains("\n| `" + m.getName() + "(")) {
                fault("the table has no " + m.getName());
            }
        }
    }

    public static void main(String[] args) throws Exception {
        String readme = Files.readString(Path.of(System.getProperty("readme", "README.md")));
        checkExamples(readme);
        checkNoneIsMissing(readme);
        System.out.println(wrong == 0 ? "README.md says what is so" : wrong + " faults in README.md");
        if (wrong != 0) {
            System.exit(1);
        }
    }
}
