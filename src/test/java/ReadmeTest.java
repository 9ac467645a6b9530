import java.io.IOException;
import java.lang.reflect.Method;
import java.lang.reflect.Modifier;
import java.nio.file.Files;
import java.nio.file.Path;
import java.util.regex.Matcher;
import java.util.regex.Pattern;

/** README.md names every call, and its example answers as it says. */
public final class ReadmeTest {
    /** A line of the example: the call, its arguments, and behind it what it answers. */
    private static final Pattern LINE = Pattern.compile("x\\.(\\w+)\\((.*?)\\); *// (-?\\d+)\\b.*");

    public static void main(String[] args) throws IOException {
        String page = Files.readString(Path.of("README.md"));
        namesEveryCall(page);
        answersAsItSays(page);
        Due.end();
    }

    private static void namesEveryCall(String page) {
        for (Method m : OnePassJudge.class.getDeclaredMethods()) {
            if (Modifier.isPublic(m.getModifiers())) {
                Due.yes("README.md names " + m.getName(), page.contains("`" + m.getName() + "("));
            }
        }
    }

    private static void answersAsItSays(String page) {
        OnePassJudge x = new OnePassJudge();
        int calls = 0;
        for (String line : page.split("\n")) {
            if (line.startsWith("x.")) {
                Matcher m = LINE.matcher(line);
                Due.yes("a call with its answer: " + line, m.matches());
                if (m.matches()) {
                    Due.is(line, callOf(m.group(1), m.group(2)).on(x), Long.parseLong(m.group(3)));
                    calls++;
                }
            }
        }
        Due.yes("README.md has an example", calls > 0);
    }

    private static Call callOf(String name, String args) {
        String words = args.replace(",", "").replace("true", "1").replace("false", "0");
        return Call.of((name + " " + words).trim());
    }
}
