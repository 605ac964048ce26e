import java.io.IOException;
import java.lang.reflect.Method;
import java.nio.charset.StandardCharsets;
import java.nio.file.Files;
import java.nio.file.Path;
import java.util.regex.Matcher;
import java.util.regex.Pattern;

/** The calls of README.md, each with the answer behind it, made one after the other on one object. */
public final class ReadmeTest {
    private static final Pattern CALL = Pattern.compile("x\\.(\\w+)\\(([^)]*)\\);\\s*// (true|false|-?\\d+):.*");
    private static final String MADE = "GuiltyShave x = new GuiltyShave();";

    private static int wrong = 0;

    public static void main(String[] args) throws IOException, ReflectiveOperationException {
        String page = Files.readString(Path.of("README.md"), StandardCharsets.UTF_8);
        int begin = page.indexOf("```java");
        int end = page.indexOf("```", begin + 1);
        if (begin < 0 || end < 0) {
            complain("README.md has no example");
        } else {
            play(page.substring(begin, end).split("\n"));
        }
        System.out.println(wrong == 0 ? "README.md tells what is so" : wrong + " faults");
        if (wrong != 0) System.exit(1);
    }

    /** The first line is the fence. */
    private static void play(String[] lines) throws ReflectiveOperationException {
        GuiltyShave x = new GuiltyShave();
        int calls = 0;
        for (int i = 1; i < lines.length; i++) {
            String line = lines[i].trim();
            Matcher call = CALL.matcher(line);
            if (call.matches()) {
                calls++;
                String got = String.valueOf(answer(x, call.group(1), call.group(2)));
                if (!got.equals(call.group(3))) complain(line + " answered " + got);
            } else if (!line.isEmpty() && !line.equals(MADE)) {
                complain(line + " is no call with an answer");
            }
        }
        if (calls == 0) complain("README.md's example has no call");
    }

    private static Object answer(GuiltyShave x, String name, String told) throws ReflectiveOperationException {
        String[] words = told.isBlank() ? new String[0] : told.split(",");
        Class<?>[] types = new Class<?>[words.length];
        Object[] values = new Object[words.length];
        for (int i = 0; i < words.length; i++) {
            types[i] = int.class;
            values[i] = (int) (long) Long.decode(words[i].trim());
        }
        Method method = GuiltyShave.class.getMethod(name, types);
        return method.invoke(x, values);
    }

    private static void complain(String what) {
        wrong++;
        System.out.println(what);
    }
}
