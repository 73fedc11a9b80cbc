import java.io.IOException;
import java.nio.file.Files;
import java.nio.file.Path;
import java.util.Set;
import java.util.TreeSet;
import java.util.regex.Matcher;
import java.util.regex.Pattern;

/** What README.md tells of the class's use: each call there answers the number that stands behind it. */
final class ReadmeTest {
    private static final Due DUE = new Due("ReadmeTest");
    private static final Pattern CALL = Pattern.compile("law\\.(\\w+)\\(([^)]*)\\);\\s*//\\s*(-?\\d+)\\b.*");
    /** So that a call that is no longer read as one is missed. */
    private static final int CALLS = 35;

    public static void main(String[] args) throws IOException {
        NoonLaw law = new NoonLaw();
        int calls = 0;
        Set<String> unread = new TreeSet<>();
        for (String line : Files.readAllLines(Path.of("README.md"))) {
            Matcher m = CALL.matcher(line);
            if (m.matches()) {
                calls++;
                DUE.is(line, Calls.of(law, m.group(1), numbers(m.group(2))), Integer.parseInt(m.group(3)));
            } else if (line.startsWith("law.")) {
                unread.add(line);
            }
        }
        DUE.is("lines that are no calls with answers: " + unread, unread.size(), 0);
        DUE.is("calls", calls, CALLS);
        DUE.end();
    }

    private static long[] numbers(String written) {
        if (written.isEmpty()) {
            return new long[0];
        }
        String[] parts = written.split(", *");
        long[] numbers = new long[parts.length];
        for (int i = 0; i < parts.length; i++) {
            numbers[i] = Long.decode(parts[i].replace("L", ""));
        }
        return numbers;
    }
}
