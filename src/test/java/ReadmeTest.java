import java.io.IOException;
import java.nio.file.Files;
import java.nio.file.Path;

/** The example of README.md: its calls stand there as they stand here, and answer what it says. */
public final class ReadmeTest {
    private static final String[] CALLS = {"new CliqueLabels()", "x.begin(5, 3);", "\"01,12,23,34,04\"",
        "x.append(c);", "x.read();", "x.labelByColors();", "x.bound(0); x.bound(1);", "x.count(3); x.count(4);",
        "x.undo();"};

    public static void main(String[] args) throws IOException {
        callsStandThere();
        example();
        Check.finish("ReadmeTest");
    }

    private static void callsStandThere() throws IOException {
        String readme = Files.readString(Path.of("README.md"));
        int from = 0;
        for (String call : CALLS) {
            int found = readme.indexOf(call, from);
            if (found < 0) {
                Check.fail("README.md has no " + call + " there");
                return;
            }
            from = found + call.length();
        }
    }

    private static void example() {
        CliqueLabels x = new CliqueLabels();
        x.begin(5, 3);
        for (char c : "01,12,23,34,04".toCharArray()) {
            x.append(c);
        }
        Check.due("read: edges", x.read(), 5);
        Check.due("labelByColors", x.labelByColors(), 3);
        Check.dueText("labels are made of colors", Check.label(x, 4), "0 0 1 0");
        Check.dueText("the handle is made of colors", Check.handle(x), "1 1 1");
        Check.due("bound(0)", x.bound(0), 3);
        Check.due("bound(1)", x.bound(1), 1);
        Check.due("count(3)", x.count(3), 2);
        Check.due("count(4)", x.count(4), 3);
        Check.due("undo", x.undo(), 2);
        Check.dueText("labels from before", Check.label(x, 4), "0 0 0 0");
        Check.due("the edges stay", x.count(2), 5);
    }
}
