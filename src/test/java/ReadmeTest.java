import java.io.IOException;
import java.lang.reflect.Method;
import java.lang.reflect.Modifier;
import java.nio.file.Files;
import java.nio.file.Path;

/** README.md names every call, and its example answers what it says. */
public final class ReadmeTest {
    public static void main(String[] args) throws IOException {
        String text = Files.readString(Path.of("README.md"));
        for (Method method : WorkspaceBox.class.getDeclaredMethods()) {
            if (Modifier.isPublic(method.getModifiers())) {
                Bench.due(method + " is told", text.contains("`" + method.getName() + "("), true);
            }
        }
        example(text);
        Bench.due("how to run the tests is told", text.contains("    .ci/run\n"), true);
        Bench.finish();
    }

    private static void example(String text) {
        WorkspaceBox box = new WorkspaceBox();
        Bench.due("feed", box.feed(0x83000100, 0, 0, 0, 0), 20);
        Bench.due("end", box.end(4), 4);
        Bench.due("load", box.load(0, 0), 4);
        Bench.due("feed", box.feed(0x02010005, 0x05810340, 0, 0, 0), 20);
        Bench.due("end", box.end(8), 8);
        Bench.due("load", box.load(0, 0x0100), 8);
        box.reset();
        Bench.due("run", box.run(100), 3);
        Bench.due("REGISTER 1", box.state(16 + 1), 6);
        Bench.due("it sleeps", box.state(3), 1);
        String[] lines = {"box.feed(0x83000100, 0, 0, 0, 0);", "box.feed(0x02010005, 0x05810340, 0, 0, 0);",
            "box.load(0, 0x0100);", "int done = box.run(100);                // 3: it sleeps then",
            "int r1 = box.state(16 + 1);             // 6"};
        for (String line : lines) {
            Bench.due("the example has " + line, text.contains(line), true);
        }
    }
}
