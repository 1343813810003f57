import java.lang.reflect.Method;
import java.nio.file.DirectoryStream;
import java.nio.file.Files;
import java.nio.file.Path;
import java.util.Map;
import java.util.TreeMap;
import java.util.regex.Matcher;
import java.util.regex.Pattern;

/** README.md: its calls, one behind the other, are answered as it says; it names every test. Runs in the project's root. */
public final class Readme {
    private static final Pattern BLOCK = Pattern.compile("(?s)```java\n(.*?)```");
    private static final Pattern CALL = Pattern.compile("(?:int (\\w+) = )?x\\.(\\w+)\\((.*)\\); +// (-?\\d+): .*");
    private static final Pattern FED = Pattern.compile("for \\(char sign : \"(.*)\"\\.toCharArray\\(\\)\\) \\{");
    private static final int LEAST_CALLS = 15;

    private static final FeetHorns x = new FeetHorns();
    private static final Map<String, Integer> names = new TreeMap<>();
    private static int calls = 0;
    private static int wrong = 0;

    public static void main(String[] args) throws Exception {
        String text = Files.readString(Path.of("README.md"));
        Matcher block = BLOCK.matcher(text);
        while (block.find()) {
            for (String line : block.group(1).split("\n")) {
                runLine(line);
            }
        }
        due("there are calls: " + calls, calls >= LEAST_CALLS);
        namesTests(text, "src/test/java");
        namesTests(text, "src/test/help");
        System.out.println("readme: " + calls + " calls, " + wrong + " not as due");
        if (wrong != 0) {
            System.exit(1);
        }
    }

    private static void due(String what, boolean is) {
        if (!is) {
            wrong++;
            System.out.println(what);
        }
    }

    private static void runLine(String line) throws Exception {
        Matcher call = CALL.matcher(line);
        Matcher fed = FED.matcher(line);
        if (call.matches()) {
            calls++;
            long got = answer(call.group(2), call.group(3));
            due(line + " answered " + got, got == Long.parseLong(call.group(4)));
            if (call.group(1) != null) {
                names.put(call.group(1), (int) got);
            }
        } else if (fed.matches()) {
            for (char sign : fed.group(1).toCharArray()) {
                x.feed(sign);
            }
        } else {
            due("a line that is not looked at: " + line,
                line.equals("FeetHorns x = new FeetHorns();") || line.equals("    x.feed(sign);") || line.equals("}"));
        }
    }

    private static long answer(String name, String arguments) throws Exception {
        String[] parts = arguments.isEmpty() ? new String[0] : arguments.split(", ");
        Object[] numbers = new Object[parts.length];
        for (int i = 0; i < parts.length; i++) {
            numbers[i] = sum(parts[i]);
        }
        for (Method m : FeetHorns.class.getMethods()) {
            if (m.getName().equals(name)) {
                return ((Number) m.invoke(x, numbers)).longValue();
            }
        }
        due("no such call: " + name, false);
        return 0;
    }

    private static int sum(String terms) {
        int sum = 0;
        for (String term : terms.split(" \\+ ")) {
            sum += names.containsKey(term) ? names.get(term) : Integer.parseInt(term);
        }
        return sum;
    }

    private static void namesTests(String text, String directory) throws Exception {
        try (DirectoryStream<Path> files = Files.newDirectoryStream(Path.of(directory), "*.java")) {
            for (Path file : files) {
                due("README.md does not name " + file, text.contains(file.getFileName() + "`"));
            }
        }
    }
}
