import java.io.IOException;
import java.nio.file.Files;
import java.nio.file.Path;
import java.util.ArrayList;
import java.util.List;
import java.util.regex.Matcher;
import java.util.regex.Pattern;

/** The example of README.md: each of its calls, in order, answers what stands beside it there. */
public final class UseTest {
    private static final Pattern ROW = Pattern.compile("x\\.(\\w+)\\((.*)\\); +// (-?\\d+):.*");

    public static void main(String[] args) throws IOException {
        Due due = new Due();
        List<String> rows = rowsOfReadme();
        due.is("README.md begins with a new object",
                rows.indexOf("FieldPack x = new FieldPack(200, 1);"), 0);
        FieldPack x = new FieldPack(200, 1);
        for (String row : rows.subList(1, rows.size())) {
            Matcher call = ROW.matcher(row);
            due.is("README.md tells call and answer: " + row, call.matches() ? 1 : 0, 1);
            if (call.matches()) {
                due.is(row, answer(x, call.group(1), call.group(2)), Long.parseLong(call.group(3)));
            }
        }
        due.is("calls in README.md", rows.size() > 5 ? 1 : 0, 1);
        due.done();
    }

    private static List<String> rowsOfReadme() throws IOException {
        List<String> all = Files.readAllLines(Path.of("README.md"));
        int begin = all.indexOf("```java");
        return new ArrayList<>(all.subList(begin + 1, begin + all.subList(begin, all.size()).indexOf("```")));
    }

    private static long answer(FieldPack x, String call, String arguments) {
        String[] a = arguments.split(", ");
        return switch (call) {
            case "field" -> x.field(Long.decode(a[0]), Long.decode(a[1]), Boolean.parseBoolean(a[2]));
            case "encode" -> x.encode(number(a, 0));
            case "move" -> x.move(number(a, 0), number(a, 1));
            case "deliver" -> x.deliver(number(a, 0));
            case "waiting" -> x.waiting(number(a, 0));
            case "told" -> x.told(number(a, 0), number(a, 1));
            case "sections" -> x.sections(number(a, 0));
            case "decoded" -> x.decoded(number(a, 0), number(a, 1), number(a, 2), number(a, 3));
            default -> throw new IllegalStateException("the example makes a call that is not known here: " + call);
        };
    }

    private static int number(String[] arguments, int i) {
        return Integer.decode(arguments[i]);
    }
}
