import java.io.IOException;
import java.nio.file.Files;
import java.nio.file.Path;
import java.util.regex.Matcher;
import java.util.regex.Pattern;

/** The example of README.md, call by call: each must answer what stands behind it. */
final class ReadmeTest {
    private static final Pattern BLOCK = Pattern.compile("(?s)```java\n(.*?)```");
    private static final Pattern CALL = Pattern.compile("x\\.(\\w+)\\((.*)\\); +// (true|-?\\d+)(:.*)?");
    private static final String FIRST = "PortTranslator x = new PortTranslator();";

    private final Check check = new Check();
    private final PortTranslator x = new PortTranslator();

    private ReadmeTest() {
    }

    public static void main(String[] args) throws IOException {
        ReadmeTest test = new ReadmeTest();
        test.example(Files.readString(Path.of("README.md")));
        test.check.end();
    }

    private void example(String readme) {
        Matcher block = BLOCK.matcher(readme);
        check.due("README.md has an example", block.find(), true);
        int calls = 0;
        for (String line : block.group(1).split("\n")) {
            if (!line.isEmpty() && !line.equals(FIRST)) {
                oneLine(line);
                calls++;
            }
        }
        check.due("the example has calls", calls > 0, true);
    }

    private void oneLine(String line) {
        Matcher call = CALL.matcher(line);
        if (!call.matches()) {
            check.due("'" + line + "' is a call with its answer", false, true);
            return;
        }
        long want = call.group(3).equals("true") ? 1 : Long.parseLong(call.group(3));
        check.due(line, answer(call.group(1), call.group(2).split(", ")), want);
    }

    private long answer(String name, String[] given) {
        switch (name) {
            case "put":
                return x.put(Integer.parseInt(given[0]), words(given[1])) ? 1 : 0;
            case "route":
                return x.route(given[0].equals("true"));
            case "length":
                return x.length();
            case "at":
                return x.at(Integer.parseInt(given[0]));
            case "flows":
                return x.flows();
            case "tick":
                return x.tick(Integer.parseInt(given[0]));
            default:
                throw new IllegalArgumentException(name);
        }
    }

    private static long words(String written) {
        return Long.parseUnsignedLong(written.substring(2, written.length() - 1).replace("_", ""), 16);
    }
}
