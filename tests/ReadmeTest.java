import java.io.IOException;
import java.nio.file.Files;
import java.nio.file.Path;
import java.util.Arrays;
import java.util.List;
import java.util.regex.Matcher;
import java.util.regex.Pattern;

/** README.md: each call of its example answers what stands behind it there. */
public final class ReadmeTest {
    private static final Pattern TOLD = Pattern.compile("String told = \"(.*)\";");
    private static final Pattern CALL = Pattern.compile("x\\.(\\w+)\\(([-0-9, ]*)\\); +// (-?\\d+).*");

    public static void main(String[] args) throws IOException {
        SnowHut x = new SnowHut();
        int calls = 0;
        for (String line : Files.readAllLines(Path.of("README.md"))) {
            Matcher told = TOLD.matcher(line);
            Matcher call = CALL.matcher(line);
            if (told.matches()) {
                Due.write(x, 0, told.group(1));
            } else if (call.matches()) {
                int promise = List.of(Pair.NAMES).indexOf(call.group(1));
                int[] numbers = Arrays.stream(call.group(2).split(", *")).filter(n -> !n.isEmpty())
                    .mapToInt(Integer::parseInt).toArray();
                Due.is("README: " + line, SnowHutCalls.call(x, promise, numbers), Long.parseLong(call.group(3)));
                calls++;
            }
        }
        Due.is("README: calls of the example", calls, 22);
        Due.end("ReadmeTest");
    }
}
