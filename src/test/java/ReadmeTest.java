import java.io.IOException;
import java.nio.file.Files;
import java.nio.file.Path;
import java.util.Arrays;
import java.util.regex.Matcher;
import java.util.regex.Pattern;

/** README.md: each row of its example answers what stands behind it, and it names all calls and constants. */
public final class ReadmeTest {
    private static final Due due = new Due("ReadmeTest");
    private static final Pattern ROW = Pattern.compile("plan\\.(\\w+)\\(([-0-9, ]*)\\); +// (-?\\d+)\\b.*");

    public static void main(String[] args) throws IOException {
        String page = Files.readString(Path.of("README.md"));
        KinkStreet plan = new KinkStreet();
        int rows = 0;
        for (String line : page.split("\n")) {
            Matcher row = ROW.matcher(line);
            if (row.matches()) {
                due.is(line, call(row.group(1), row.group(2)).on(plan), Long.parseLong(row.group(3)));
                rows++;
            } else {
                due.holds("a row that can be asked: " + line, !line.startsWith("plan."));
            }
        }
        due.holds("rows were found", rows > 20);
        for (String name : Call.face().keySet()) {
            due.holds(name + " is named", page.contains("`" + name + "`"));
        }
        String[] constants = {"BAD` | " + KinkStreet.BAD, "NOT` | " + KinkStreet.NOT, "FULL` | " + KinkStreet.FULL,
            "BIG` | " + KinkStreet.BIG, "STATE` | " + KinkStreet.STATE, "VOID` | " + KinkStreet.VOID};
        for (String constant : constants) {
            due.holds(constant + " is told", page.contains("| `" + constant + " |"));
        }
        due.holds("how many calls are served", page.contains("512 calls"));
        due.end();
    }

    private static Call call(String name, String arguments) {
        return Call.of(name, Arrays.stream(arguments.split(",")).map(String::trim).filter(a -> !a.isEmpty())
            .mapToLong(Long::parseLong).toArray());
    }
}
