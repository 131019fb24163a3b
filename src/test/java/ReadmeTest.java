import java.io.IOException;
import java.lang.reflect.Method;
import java.lang.reflect.Modifier;
import java.nio.file.Files;
import java.nio.file.Path;
import java.util.regex.Matcher;
import java.util.regex.Pattern;

/** README.md: its examples answer what they say, and it names each call. */
public final class ReadmeTest {
    private static final Due DUE = new Due("readme");
    private static final Pattern EXAMPLE = Pattern.compile("(?s)```java\n(.*?)```");
    private static final String NEW_OBJECT = "MayReadPencil x = new MayReadPencil();";
    private static final Pattern LETTERS =
            Pattern.compile("for \\(char letter : \"([^\"]*)\"\\.toCharArray\\(\\)\\) \\{");
    private static final Pattern CALL = Pattern.compile("x\\.(\\w+)\\(([-\\d, ]*)\\); +// (-?\\d+): .*");

    private MayReadPencil x;
    private String letters = "";

    public static void main(String[] args) throws IOException, ReflectiveOperationException {
        String text = Files.readString(Path.of("README.md"));
        Matcher example = EXAMPLE.matcher(text);
        int examples = 0;
        while (example.find()) {
            ReadmeTest test = new ReadmeTest();
            for (String line : example.group(1).split("\n")) {
                test.follow(line.trim());
            }
            examples++;
        }
        DUE.is("examples", examples, 2);
        for (Method method : MayReadPencil.class.getDeclaredMethods()) {
            boolean isCall = Modifier.isPublic(method.getModifiers());
            DUE.isSo(method.getName() + " is named", !isCall || text.contains("`" + method.getName() + "`"));
        }
        DUE.end();
    }

    private void follow(String line) throws ReflectiveOperationException {
        Matcher toFeed = LETTERS.matcher(line);
        Matcher call = CALL.matcher(line);
        if (line.equals(NEW_OBJECT)) {
            x = new MayReadPencil();
        } else if (toFeed.matches()) {
            letters = toFeed.group(1);
        } else if (line.equals("x.feed(letter);")) {
            letters.chars().forEach(x::feed);
        } else if (call.matches()) {
            DUE.is(line, answer(call.group(1), call.group(2)), Long.parseLong(call.group(3)));
        } else {
            DUE.isSo("the test knows how to follow: " + line, line.equals("}"));
        }
    }

    private long answer(String name, String numbers) throws ReflectiveOperationException {
        String[] each = numbers.isEmpty() ? new String[0] : numbers.split(", ");
        Class<?>[] types = new Class<?>[each.length];
        Object[] arguments = new Object[each.length];
        for (int i = 0; i < each.length; i++) {
            types[i] = int.class;
            arguments[i] = Integer.parseInt(each[i]);
        }
        return ((Number) MayReadPencil.class.getMethod(name, types).invoke(x, arguments)).longValue();
    }
}
