import java.io.IOException;
import java.lang.reflect.InvocationTargetException;
import java.lang.reflect.Method;
import java.lang.reflect.Modifier;
import java.nio.charset.StandardCharsets;
import java.nio.file.Files;
import java.nio.file.Path;
import java.util.regex.Matcher;
import java.util.regex.Pattern;

/** What README.md tells of the class: every call with its answer, and the name of every call there is. */
public final class ReadmeTest extends Checks {
    private static final Pattern CALL = Pattern.compile("x\\.(\\w+)\\(([^)]*)\\);(?:\\s*// (-?\\d+)(?![\\d]).*)?");
    private static final Pattern TEXT = Pattern.compile("write\\(x, \"([^\"]*)\"\\);");

    // This stands in README.md as it stands here.
    static void write(FuseFrames x, String text) {
        for (int i = 0; i < text.length(); i += 20) {
            int[] fours = new int[5];
            for (int j = 0; j < 20; j++) {
                fours[j / 4] = fours[j / 4] << 8 | (i + j < text.length() ? text.charAt(i + j) : 0);
            }
            x.feed(fours[0], fours[1], fours[2], fours[3], fours[4]);
        }
        x.end(text.length());
    }

    private static Method called(String name) {
        for (Method method : FuseFrames.class.getMethods()) {
            if (method.getName().equals(name)) {
                return method;
            }
        }
        throw new IllegalStateException("README.md has a call that there is not: " + name);
    }

    private static long answer(FuseFrames x, String name, String numbers) {
        String[] each = numbers.isEmpty() ? new String[0] : numbers.split(", ");
        Object[] arguments = new Object[each.length];
        for (int i = 0; i < each.length; i++) {
            arguments[i] = Integer.parseInt(each[i]);
        }
        try {
            return ((Number) called(name).invoke(x, arguments)).longValue();
        } catch (IllegalAccessException | InvocationTargetException e) {
            throw new IllegalStateException(name + "(" + numbers + "): " + e);
        }
    }

    private static String folded(String text) {
        return text.replaceAll("\\s+", " ");
    }

    private static void answersAreSo(String readme) {
        FuseFrames x = new FuseFrames();
        Matcher blocks = Pattern.compile("(?s)```java\n(.*?)```").matcher(readme);
        while (blocks.find()) {
            if (blocks.group(1).startsWith("static ")) {
                continue;
            }
            for (String line : blocks.group(1).split("\n")) {
                Matcher text = TEXT.matcher(line);
                Matcher call = CALL.matcher(line);
                if (text.matches()) {
                    write(x, text.group(1));
                } else if (call.matches()) {
                    long got = answer(x, call.group(1), call.group(2));
                    is(line, got, call.group(3) == null ? got : Long.parseLong(call.group(3)));
                } else {
                    is("read (1) or not (0): " + line, line.equals("FuseFrames x = new FuseFrames();") ? 1 : 0, 1);
                }
            }
        }
    }

    private static void helperIsThis(String readme, String own) {
        Matcher helper = Pattern.compile("(?s)```java\n(static .*?)```").matcher(readme);
        is("a helper to write with", helper.find() ? 1 : 0, 1);
        is("the helper is what this test uses", folded(own).contains(folded(helper.group(1)).trim()) ? 1 : 0, 1);
    }

    private static void everyCallIsNamed(String readme) {
        for (Method method : FuseFrames.class.getDeclaredMethods()) {
            if (Modifier.isPublic(method.getModifiers())) {
                is("`" + method.getName() + "` is named", readme.contains("`" + method.getName() + "`") ? 1 : 0, 1);
            }
        }
    }

    private static void everyTestIsNamed(String readme) throws IOException {
        try (var tests = Files.list(Path.of("src/test/java"))) {
            tests.forEach(test -> is("`" + test + "` is named",
                    readme.contains("`src/test/java/" + test.getFileName() + "`") ? 1 : 0, 1));
        }
    }

    public static void main(String[] args) throws IOException {
        in("README.md");
        String readme = Files.readString(Path.of("README.md"), StandardCharsets.UTF_8);
        answersAreSo(readme);
        helperIsThis(readme, Files.readString(Path.of("src/test/java/ReadmeTest.java"), StandardCharsets.UTF_8));
        everyCallIsNamed(readme);
        everyTestIsNamed(readme);
        finish();
    }
}
