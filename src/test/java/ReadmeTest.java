import java.io.IOException;
import java.nio.file.Files;
import java.nio.file.Path;

/** The calls that README.md shows, and the answers that it tells. */
public final class ReadmeTest {
    private static final Checks checks = new Checks("ReadmeTest");

    public static void main(String[] args) throws IOException {
        theCalls();
        theNames(Files.readString(Path.of("README.md")));
        checks.end();
    }

    private static void theCalls() {
        Barrierbrook b = new Barrierbrook();
        int source = b.source(1, 0, 5);
        int window = b.window(source, Barrierbrook.TUMBLE, 10, 0, false, 20, 0);
        int sink = b.sink(window);
        b.event(source, 0, 3, 7, 42);
        b.event(source, 0, 15, 7, 1);
        b.run(20);
        checks.same("pending", b.pending(sink), 1);
        b.cut(false);
        b.run(20);
        checks.same("given", b.given(sink), 1);
        checks.same("net", b.net(sink, 7, 9), 42);
        checks.same("correct", b.correct(source, 0, 0, 50), 4);
        b.run(20);
        checks.same("whole", b.whole(window, 7, 9), 50);
        checks.same("rescale", b.rescale(window, 2), 1);
        checks.same("pending behind a crash", b.pending(sink), 0);
        b.run(20);
        b.cut(true);
        checks.same("given behind the crash", Checks.given(b, sink), "7@9=42+ 7@9=42- 7@9=50+");
        checks.same("net behind the crash", b.net(sink, 7, 9), 50);
    }

    /** README.md names every call of the face. */
    private static void theNames(String page) {
        for (java.lang.reflect.Method m : Barrierbrook.class.getDeclaredMethods()) {
            if (java.lang.reflect.Modifier.isPublic(m.getModifiers())) {
                String name = m.getName();
                checks.yes("README.md names " + name, page.contains("`" + name) || page.contains("b." + name + "("));
            }
        }
    }
}
