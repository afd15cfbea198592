/** Promise 1: a new object. */
final class NewObjectTest {
    public static void main(String[] args) {
        CascadeStore store = new CascadeStore();
        for (int what = 0; what <= 4; what++) {
            Bench.is("told(" + what + ") of a new object", store.told(what), CascadeStore.NONE);
        }
        for (int what = 5; what <= 7; what++) {
            Bench.is("told(" + what + ") of a new object", store.told(what), 0);
        }
        for (int what = 0; what <= 6; what++) {
            Bench.is("count(" + what + ") of a new object", store.count(what), 0);
        }
        Bench.is("NONE", CascadeStore.NONE, -1);
        Bench.is("NULL", CascadeStore.NULL, Long.MIN_VALUE);
        Bench.is("a table of a new object", store.find(0, 'a'), CascadeStore.NONE);
        Bench.noIndex("table(0, 0) of a new object", () -> store.table(0, 0));
        Bench.noIndex("rule(0, 0) of a new object", () -> store.rule(0, 0));
        Bench.noIndex("trigger(0, 0) of a new object", () -> store.trigger(0, 0));
        apart();
        Bench.finish();
    }

    private static void apart() {
        Bench one = Bench.with("table a (x)", "insert a (1)");
        Bench other = new Bench();
        Bench.is("tables of another object", other.store.count(0), 0);
        other.does("table b (y)");
        one.holds("a", "1: 1");
    }
}
