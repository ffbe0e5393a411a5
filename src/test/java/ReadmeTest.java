import java.lang.reflect.Method;
import java.lang.reflect.Modifier;
import java.nio.file.Files;
import java.nio.file.Path;
import java.util.regex.Matcher;
import java.util.regex.Pattern;

/** What README.md shows is so: its calls answer what stands behind them, and it names every call of the class. */
public final class ReadmeTest {
    private static final Pattern TOLD = Pattern.compile("for \\(char c : \"([^\"]*)\"\\.toCharArray\\(\\)\\) \\{");
    private static final Pattern CALL = Pattern.compile("x\\.(\\w+)\\(([-0-9, ]*)\\);\\s*// (-?\\d+)\\b.*");
    private static int passed = 0;
    private static int failed = 0;

    private static void check(String what, boolean right) {
        if (right) {
            passed++;
        } else {
            failed++;
            System.out.println("wrong: " + what);
        }
    }

    private static long answer(EachLendsHisFace x, String name, String list) throws ReflectiveOperationException {
        String[] told = list.isEmpty() ? new String[0] : list.split(", *");
        Class<?>[] types = new Class<?>[told.length];
        Object[] numbers = new Object[told.length];
        for (int i = 0; i < told.length; i++) {
            types[i] = int.class;
            numbers[i] = Integer.valueOf(told[i]);
        }
        return ((Number) EachLendsHisFace.class.getMethod(name, types).invoke(x, numbers)).longValue();
    }

    private static void theExampleIsSo(String page) throws ReflectiveOperationException {
        int start = page.indexOf("```java\n");
        int end = page.indexOf("```\n", start + 1);
        check("there is an example", start >= 0 && end > start);
        EachLendsHisFace x = new EachLendsHisFace();
        int calls = 0;
        for (String line : page.substring(Math.max(start, 0), Math.max(end, 0)).split("\n")) {
            Matcher told = TOLD.matcher(line);
            Matcher call = CALL.matcher(line);
            if (told.matches()) {
                told.group(1).chars().forEach(x::letter);
            } else if (call.matches()) {
                calls++;
                long got = answer(x, call.group(1), call.group(2));
                check(line + " answered " + got, got == Long.parseLong(call.group(3)));
            } else {
                check("a line that nobody looks at: " + line, !line.contains("//"));
            }
        }
        check("the example calls something", calls > 0);
    }

    private static void everyCallIsNamed(String page) {
        for (Method method : EachLendsHisFace.class.getDeclaredMethods()) {
            if (Modifier.isPublic(method.getModifiers())) {
                check(method.getName() + " is named", page.contains("`" + method.getName() + "`"));
            }
        }
    }

    private static void everyTestIsNamed(String page) throws java.io.IOException {
        try (var files = Files.list(Path.of("src/test/java"))) {
            for (Path file : files.toList()) {
                String name = file.getFileName().toString().replace(".java", "");
                check(name + " is named", page.contains("`" + name + "`"));
            }
        }
    }

    public static void main(String[] args) throws Exception {
        String page = Files.readString(Path.of("README.md"));
        theExampleIsSo(page);
        everyCallIsNamed(page);
        everyTestIsNamed(page);
        System.out.println(passed + " passed, " + failed + " failed");
        if (failed != 0) {
            System.exit(1);
        }
    }
}
