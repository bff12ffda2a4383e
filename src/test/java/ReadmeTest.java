import java.io.IOException;
import java.lang.reflect.Method;
import java.nio.file.Files;
import java.nio.file.Path;
import java.util.regex.Matcher;
import java.util.regex.Pattern;

/** Carries out the lines of use that README.md tells: each answers as its comment begins. */
public final class ReadmeTest {
    private static final Due due = new Due("ReadmeTest");
    private static final Pattern CALL = Pattern.compile("harp\\.(\\w+)\\(([-0-9, ]*)\\); +// (-?\\d+)(:.*)?");
    private static final Pattern FEED = Pattern.compile("feed\\(harp, \"([^\"]*)\"\\);.*");

    public static void main(String[] args) throws IOException, ReflectiveOperationException {
        WindHarp harp = new WindHarp();
        boolean isUse = false;
        int calls = 0;
        for (String line : Files.readAllLines(Path.of("README.md"))) {
            if (line.equals("WindHarp harp = new WindHarp();")) {
                isUse = true;
                continue;
            }
            isUse &= !line.equals("```");
            if (isUse && !line.isBlank()) {
                calls += carryOut(harp, line);
            }
        }
        due.holds("there are lines of use", calls > 30);
        due.end();
    }

    private static int carryOut(WindHarp harp, String line) throws ReflectiveOperationException {
        Matcher feed = FEED.matcher(line);
        if (feed.matches()) {
            Due.feed(harp, feed.group(1));
            return 0;
        }
        Matcher call = CALL.matcher(line);
        due.holds("a line that can be carried out: " + line, call.matches());
        if (call.matches()) {
            due.is(line, answerOf(harp, call.group(1), call.group(2)), Integer.parseInt(call.group(3)));
        }
        return 1;
    }

    private static int answerOf(WindHarp harp, String name, String told) throws ReflectiveOperationException {
        String[] words = told.isEmpty() ? new String[0] : told.split(", ");
        Object[] numbers = new Object[words.length];
        for (int i = 0; i < words.length; i++) {
            numbers[i] = Integer.valueOf(words[i]);
        }
        for (Method method : WindHarp.class.getMethods()) {
            if (method.getName().equals(name) && method.getParameterCount() == numbers.length) {
                return (Integer) method.invoke(harp, numbers);
            }
        }
        throw new NoSuchMethodException(name);
    }
}
