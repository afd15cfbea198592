/** Promise 2: feed. */
final class FeedTest {
    public static void main(String[] args) {
        ordinary();
        wrong();
        full();
        Bench.finish();
    }

    private static void ordinary() {
        CascadeStore store = new CascadeStore();
        Bench.is("feed of one", store.feed('b', 1), 1);
        Bench.is("feed of four", store.feed(Bench.packed("egin"), 4), 5);
        Bench.is("bytes", store.count(6), 5);
        Bench.is("begin in two parts", store.run(), 0);
        Bench.is("bytes after run", store.count(6), 0);
        Bench.is("the lowest bytes alone", store.feed(Bench.packed("xxxxback"), 4), 4);
        Bench.is("back", store.run(), 0);
        Bench.is("eight bytes", store.feed(Bench.packed("table ab"), 8), 8);
        store.feed(Bench.packed(" (x)"), 4);
        Bench.is("table of two parts", store.run(), 0);
        Bench.is("its name", store.table(0, 3), Bench.packed("ab"));
        Bench.is("a byte of the highest bits", store.feed(-1L, 1), 1);
        Bench.is("which begins no token", store.run(), 1);
        Bench.is("its fault", store.told(0), 1);
        Bench.is("zeros are bytes too", store.feed(0, 8), 8);
    }

    private static void wrong() {
        CascadeStore store = new CascadeStore();
        store.feed('x', 1);
        for (int n : new int[] {0, -1, 9, Integer.MAX_VALUE, Integer.MIN_VALUE}) {
            Bench.noArgument("feed of " + n, () -> store.feed(1, n));
        }
        Bench.is("bytes after wrong feeds", store.count(6), 1);
    }

    private static void full() {
        CascadeStore store = new CascadeStore();
        for (int i = 0; i < 74; i++) {
            store.feed(0x2020202020202020L, 8);
        }
        Bench.is("bytes before the last", store.feed(0x20202020, 4), 596);
        Bench.refused("feed beyond the end", IllegalStateException.class, () -> store.feed(0x2020202020L, 5));
        Bench.is("bytes after a feed too many", store.count(6), 596);
        Bench.is("feed up to the end", store.feed(0x20202020, 4), 600);
        Bench.refused("feed of one behind the end", IllegalStateException.class, () -> store.feed(0x20, 1));
        Bench.noArgument("feed of none behind the end", () -> store.feed(0x20, 0));
        Bench.noArgument("feed of nine behind the end", () -> store.feed(0x20, 9));
        Bench.is("a tape of blanks", store.run(), 1);
        Bench.is("its fault", store.told(0), 2);
        Bench.is("the place of its end", store.told(1), 600);
        Bench.is("feed after run", store.feed('a', 1), 1);
    }
}
