import java.io.IOException;
import java.lang.reflect.Method;
import java.nio.file.Files;
import java.nio.file.Path;

/** README.md: what its example says is what the class answers, and its table names every test and call. */
public final class ReadmeTest {
    private final Bench bench = new Bench();
    private final String readme;

    private ReadmeTest(String text) {
        readme = text.replaceAll("\\s+", " ");
    }

    public static void main(String[] args) throws IOException {
        ReadmeTest test = new ReadmeTest(Files.readString(Path.of("README.md")));
        test.example();
        test.tests();
        test.bench.end();
    }

    /** The call stands in README.md with its answer behind it. */
    private void shown(String call, int got, int want, String told) {
        bench.due(call, got, want);
        bench.due("README.md has " + call + " with " + told, readme.contains("wire." + call + "; // " + told) ? 1 : 0, 1);
    }

    private void typed(ExchangeWire wire, int device, String signs) {
        String shown = "send(wire, " + device + ", \"" + signs + "\\r\");";
        bench.due("README.md has " + shown, readme.contains(shown) ? 1 : 0, 1);
        Bench.type(wire, device, signs + "\r");
    }

    private void answered(ExchangeWire wire, int device, String want) {
        bench.due("the answer", Bench.heard(wire, device), want);
        bench.due("README.md has " + want, readme.contains(want + "\\r") ? 1 : 0, 1);
    }

    private void example() {
        ExchangeWire wire = new ExchangeWire();
        typed(wire, 0, "S2Z85");
        answered(wire, 0, "Y0S2Z0E");
        shown("answer(0, 0)", wire.answer(0, 0), 'Y', "'Y'");
        typed(wire, 0, "C3a3|b5|Z99");
        answered(wire, 0, "Y1C3Z00");
        shown("offline(1, 0, 7, 2)", wire.offline(1, 0, 7, 2), 1, "1:");
        shown("join(1)", wire.join(1), 1, "1:");
        shown("acts()", wire.acts(), 2, "2:");
        shown("act(1, 3)", wire.act(1, 3), 2, "2:");
        shown("sum('S')", wire.sum('S'), 83, "83");
        shown("sum('2')", wire.sum('2'), 133, "133,");
        shown("sum(-1)", wire.sum(-1), 133, "133:");
        bench.due("133 in the signs of a SUM", String.format("%02X", 133), "85");
    }

    private void tests() {
        String[] files = Path.of("src/test/java").toFile().list();
        bench.due("tests are found", files != null && files.length > 0 ? 1 : 0, 1);
        for (String file : files == null ? new String[0] : files) {
            String name = file.replace(".java", "");
            boolean isTest = name.endsWith("Test");
            bench.due("README.md tells of " + name, readme.contains(isTest ? "| " + name + " |" : file) ? 1 : 0, 1);
        }
        for (Method method : ExchangeWire.class.getMethods()) {
            if (method.getDeclaringClass() == ExchangeWire.class) {
                boolean told = readme.contains("| `" + method.getName() + "(");
                bench.due("README.md tells of " + method.getName(), told ? 1 : 0, 1);
            }
        }
    }
}
