import java.io.IOException;
import java.lang.reflect.Method;
import java.lang.reflect.Modifier;
import java.nio.file.Files;
import java.nio.file.Path;
import java.util.ArrayList;
import java.util.List;

/** What README.md says of the use, so that it stays true. */
public final class ReadmeTest {
    public static void main(String[] args) throws IOException {
        String readme = Files.readString(Path.of("README.md"));
        String test = Files.readString(Path.of("src/test/java/ReadmeTest.java"));
        Check.all("ReadmeTest",
                ReadmeTest::example,
                () -> exampleIsTheOneOfTheReadme(readme, test),
                () -> tableHasTheCalls(readme));
    }

    private static void example() {
        Check.sentence("README.md", "the example");
        RangePropagator p = new RangePropagator();
        int head = p.addBlock();
        int body = p.addBlock();
        int end = p.addBlock();
        p.input(0, 1, 10, 10);
        p.input(0, 2, 1, 1);
        p.jump(0, head);
        p.branch(head, 0, 0, 1, body, end);
        p.compute(body, 1, 0, 0, 2);
        p.jump(body, head);
        p.setEffort(2, 2);
        Check.equal("rounds", p.analyze(), 4);
        Check.equal("high end in the body", p.entry(body, 0, true), 9);
        Check.equal("low end behind the loop", p.entry(end, 0, false), 10);
        Check.equal("steps", p.run(42L, 100), 23);
        Check.equal("result", p.result(0), 10);
    }

    private static void exampleIsTheOneOfTheReadme(String readme, String test) {
        Check.sentence("README.md", "the example is the one above");
        String[] parts = readme.split("```");
        Check.yes("there is an example", parts.length == 3 && parts[1].startsWith("java\n"));
        int from = 0;
        for (String line : parts[1].substring("java\n".length()).split("\n")) {
            String code = line.replaceAll("//.*", "").trim().replaceAll(";$", "");
            int at = test.indexOf(code, from);
            Check.yes("'" + code + "' stands in this test, in the same order", at >= 0);
            from = Math.max(at, from);
        }
    }

    /** Each call has a row of the table, with as many arguments as it takes. */
    private static void tableHasTheCalls(String readme) {
        Check.sentence("README.md", "the table of the calls");
        List<String> rows = new ArrayList<>();
        for (String line : readme.split("\n")) {
            if (line.startsWith("| `") && line.contains(")`")) {
                rows.add(line.substring(3, line.indexOf('`', 3)));
            }
        }
        int calls = 0;
        for (Method method : RangePropagator.class.getDeclaredMethods()) {
            if (Modifier.isPublic(method.getModifiers())) {
                calls++;
                Check.yes(method + " is in the table", rows.stream().anyMatch(row -> isRowOf(row, method)));
            }
        }
        Check.equal("rows", rows.size(), calls);
    }

    private static boolean isRowOf(String row, Method method) {
        String arguments = row.substring(row.indexOf('(') + 1, row.length() - 1);
        int count = arguments.isEmpty() ? 0 : arguments.split(",").length;
        return row.startsWith(method.getName() + "(") && count == method.getParameterCount();
    }
}
