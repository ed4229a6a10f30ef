import java.lang.reflect.Field;
import java.lang.reflect.Method;
import java.lang.reflect.Modifier;
import java.nio.file.Files;
import java.nio.file.Path;
import java.util.List;
import java.util.regex.Matcher;
import java.util.regex.Pattern;

/** Runs the lines of README.md, and looks for every call, constant and test in it. */
public final class ReadmeTests {
    private static final Pattern CALL = Pattern.compile("bench\\.(\\w+)\\(([^)]*)\\);\\s*// (-?\\d+)\\b.*");

    private static int wrong;

    public static void main(String[] args) throws Exception {
        String text = Files.readString(Path.of("README.md"));
        int ran = runLines(text.lines().toList());
        check(ran >= 25, "README.md has only " + ran + " calls with an answer");
        for (Method method : OddHours.class.getDeclaredMethods()) {
            if (Modifier.isPublic(method.getModifiers())) {
                check(text.contains("`" + method.getName() + "`"), "no call " + method.getName());
            }
        }
        for (Field field : OddHours.class.getFields()) {
            String row = "| `" + field.getName() + "` | " + field.getInt(null) + " |";
            check(text.contains(row), "no row " + row);
        }
        check(text.contains("new OddHours()"), "not how an object is made");
        check(text.contains("\n.ci/run\n"), "not how the tests are run");
        try (var tests = Files.list(Path.of("src/test/java"))) {
            tests.map(p -> p.getFileName().toString().replace(".java", ""))
                    .forEach(name -> check(text.contains("- `" + name + "`"), "no test " + name));
        }
        System.out.println("readme: " + ran + " calls, " + wrong + " wrong");
        if (wrong > 0) {
            System.exit(1);
        }
    }

    private static int runLines(List<String> lines) throws Exception {
        OddHours bench = new OddHours();
        int ran = 0;
        for (String line : lines) {
            Matcher call = CALL.matcher(line);
            check(!line.startsWith("bench.") || call.matches(), "no answer: " + line);
            if (call.matches()) {
                int got = answerOf(bench, call.group(1), call.group(2).split(",\\s*"));
                check(got == Integer.parseInt(call.group(3)), line + " answered " + got);
                ran++;
            }
        }
        return ran;
    }

    private static int answerOf(OddHours bench, String name, String[] numbers) throws Exception {
        Class<?>[] types = new Class<?>[numbers.length];
        Object[] values = new Object[numbers.length];
        for (int i = 0; i < numbers.length; i++) {
            types[i] = int.class;
            values[i] = Integer.valueOf(numbers[i]);
        }
        return (Integer) OddHours.class.getMethod(name, types).invoke(bench, values);
    }

    private static void check(boolean isSo, String otherwise) {
        if (!isSo) {
            wrong++;
            System.out.println(otherwise);
        }
    }
}
