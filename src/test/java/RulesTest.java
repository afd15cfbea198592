/** Promise 3: rules that are looked at behind a change (section 4). */
final class RulesTest {
    public static void main(String[] args) {
        musts();
        primaries();
        uniques();
        checks();
        refers();
        firstBroken();
        lookedAtBehind();
        asBefore();
        Bench.finish();
    }

    private static void musts() {
        Bench b = Bench.with("table a (x, y default 3 must)", "insert a (null, default)");
        b.breaks(0, 2, "insert a (1, null)");
        b.breaks(0, 1, "update a set y = null");
        b.does("update a set y = 0");
    }

    private static void primaries() {
        Bench b = Bench.with("table a (x, y, z, primary (x, y))", "insert a (1, 2, 3)", "insert a (1, 3, 3)");
        b.breaks(0, 3, "insert a (1, 2, 4)");
        b.breaks(0, 3, "insert a (null, 2, 4)");
        b.breaks(0, 3, "insert a (1, null, 4)");
        b.breaks(0, 2, "update a set y = 7");
        b.breaks(0, 1, "update a set x = null");
        b.does("insert a (2, 2, null)", "update a set x = x + 1", "update a set x = 3 - y, y = x where z = 3");
    }

    private static void uniques() {
        Bench b = Bench.with("table a (x, y, unique (x, y))", "insert a (1, 2)", "insert a (1, null)", "insert a (1, null)",
                "insert a (null, null)");
        b.breaks(0, 5, "insert a (1, 2)");
        b.breaks(0, 2, "update a set y = 2");
        b.does("update a set x = null");
    }

    private static void checks() {
        Bench b = Bench.with("table a (x, y, check x < y, check x / y < 2)", "insert a (1, 2)", "insert a (null, 2)",
                "insert a (-1, 0)");
        b.breaks(0, 4, "insert a (2, 2)");
        b.breaks(1, 4, "insert a (-6, -3)");
        b.breaks(0, 1, "update a set x = 9");
    }

    private static void refers() {
        Bench b = Bench.with("table a (x, y, unique (x, y))", "table b (p, q, refer (q, p) to a (x, y))", "insert a (1, 2)",
                "insert a (5, null)");
        b.breaks(1, 1, "insert b (1, 2)");
        b.does("insert b (2, 1)", "insert b (null, 7)", "insert b (7, null)");
        b.breaks(1, 4, "insert b (2, 5)");
        b.breaks(1, 1, "update a set y = 3");
        b.breaks(1, 1, "delete a");
    }

    private static void firstBroken() {
        Bench b = Bench.with("table a (x, check x # 2, check x < 5)", "table b (x must)", "insert a (0)", "insert a (0)");
        b.breaks(1, 1, "update a set x = 5");
        b.breaks(0, 1, "update a set x = 2");
        b.breaks(0, 3, "insert a (2)");
        b.does("trigger t after insert on b do update a set x = 7");
        b.breaks(1, 1, "insert b (null)");
        b.does("drop table b", "table b (x, check x # 7)");
        Bench.is("rule of the new table", b.store.rule(2, 1), 1);
    }

    private static void lookedAtBehind() {
        Bench b = Bench.with("table a (x, unique (x))", "insert a (1)", "insert a (2)", "insert a (3)");
        b.does("update a set x = x + 1");
        b.holds("a", "1: 2, 2: 3, 3: 4");
        b.does("trigger t after insert on a do delete a where x = new.x", "insert a (2)");
        b.holds("a", "2: 3, 3: 4");
    }

    private static void asBefore() {
        Bench b = Bench.with("table a (x, check x > 0)", "insert a (1)", "insert a (2)");
        String state = b.state();
        b.breaks(0, 3, "insert a (0)");
        b.breaks(0, 2, "update a set x = x - 2 where x = 2");
        Bench.is("steps are told", b.store.told(5), 1);
        Bench.isText("state after broken rules", b.state(), state);
        b.does("insert a (3)");
        b.holds("a", "1: 1, 2: 2, 3: 3");
    }
}
