import java.lang.reflect.Method;
import java.nio.charset.StandardCharsets;
import java.nio.file.Files;
import java.nio.file.Path;
import java.util.Arrays;
import java.util.regex.Matcher;
import java.util.regex.Pattern;

/** README.md's example answers what stands behind its calls. */
public final class ReadmeTest {
    private static final Pattern TEXT = Pattern.compile("String text = \"(.*)\";");
    private static final Pattern CALL = Pattern.compile("(?m)^x\\.(\\w+)\\((.*)\\); *// (-?\\d+):");
    private static final Check CHECK = new Check();

    public static void main(String[] args) throws Exception {
        String page = Files.readString(Path.of("README.md"), StandardCharsets.UTF_8);
        Matcher text = TEXT.matcher(page);
        CHECK.due("a text", text.find() ? 1 : 0, 1);
        HandLine x = new HandLine();
        int[] n = Check.numbers(Check.bytes(text.group(1)));
        for (int i = 0; i < n.length; i += 5) {
            x.feed(n[i], n[i + 1], n[i + 2], n[i + 3], n[i + 4]);
        }
        Matcher call = CALL.matcher(page);
        int calls = 0;
        while (call.find()) {
            calls++;
            CHECK.due(call.group(), answer(x, call.group(1), call.group(2)), Long.parseLong(call.group(3)));
        }
        CHECK.due("some calls", calls > 0 ? 1 : 0, 1);
        CHECK.due("calls, each with its answer", calls, page.lines().filter(line -> line.startsWith("x.")).count());
        CHECK.finish();
    }

    private static long answer(HandLine x, String name, String arguments) throws ReflectiveOperationException {
        long[] values = Arrays.stream(arguments.split(", *")).filter(part -> !part.isEmpty())
                .mapToLong(Long::parseLong).toArray();
        for (Method method : HandLine.class.getMethods()) {
            if (method.getName().equals(name) && method.getParameterCount() == values.length) {
                Object[] all = new Object[values.length];
                for (int i = 0; i < all.length; i++) {
                    boolean isLong = method.getParameterTypes()[i] == long.class;
                    all[i] = isLong ? (Object) values[i] : (Object) (int) values[i];
                }
                return ((Number) method.invoke(x, all)).longValue();
            }
        }
        throw new IllegalStateException("no call " + name);
    }
}
