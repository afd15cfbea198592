import java.io.IOException;
import java.nio.file.Files;
import java.nio.file.Path;

/** What README.md shows of the use of the class; it is read from the project's directory, where .ci/run goes. */
public final class ReadmeTest {
    public static void main(String[] args) throws IOException {
        statements(Files.readString(Path.of("README.md")));
        firstExample();
        fedByteByByte();
        Bench.finish();
    }

    private static void statements(String readme) {
        String[] behind = readme.split("```text\n", 2);
        Bench.is("a list of statements is there", behind.length, 2);
        Bench bench = new Bench();
        for (String statement : behind[behind.length - 1].split("\n```")[0].split("\n")) {
            bench.ends(0, statement);
        }
        Bench.is("tables", bench.store.count(0), 1);
        Bench.is("triggers", bench.store.count(2), 0);
        bench.holds("a", "1: 5 -7");
    }

    private static void firstExample() {
        CascadeStore store = new CascadeStore();
        Bench.is("feed", store.feed(0x7461626c65206120L, 8), 8);
        Bench.is("feed", store.feed(0x287829L, 3), 11);
        Bench.is("run", store.run(), 0);
        Bench.is("bytes on the tape", store.count(6), 0);
        Bench.is("name", store.table(0, 3), 0x61);
    }

    private static void fedByteByByte() {
        CascadeStore store = new CascadeStore();
        Bench.is("a table", say(store, "table a (x)"), 0);
        Bench.is("a fault", say(store, "table a (y)"), 1);
        Bench.is("which", store.told(0), 3);
        Bench.is("its place", store.told(1), 6);
    }

    private static int say(CascadeStore store, String text) {
        for (int i = 0; i < text.length(); i++) {
            store.feed(text.charAt(i), 1);
        }
        return store.run();
    }
}
