/** Promise 3: SUMS, TESTS (section 2) and CHANGES without triggers and references (section 3). */
final class ChangesTest {
    public static void main(String[] args) {
        sums();
        wraps();
        tests();
        threeWays();
        inserts();
        updates();
        deletes();
        divisions();
        room();
        Bench.finish();
    }

    private static void sums() {
        Bench.sum(7, "1 + 2 * 3");
        Bench.sum(9, "(1 + 2) * 3");
        Bench.sum(-4, "1 - 2 - 3");
        Bench.sum(2, "1 - (2 - 3)");
        Bench.sum(1, "8 / 4 / 2");
        Bench.sum(4, "8 / (4 / 2)");
        Bench.sum(6, "8 / 4 * 3");
        Bench.sum(-3, "- 7 / 2");
        Bench.sum(-3, "7 / -2");
        Bench.sum(3, "-7 / -2");
        Bench.sum(5, "--5");
        Bench.sum(-6, "- 2 * 3");
        Bench.sum(0, "0 / 5");
        Bench.sum(CascadeStore.NULL, "null");
        Bench.sum(CascadeStore.NULL, "- null");
        Bench.sum(CascadeStore.NULL, "1 + null");
        Bench.sum(CascadeStore.NULL, "null * 0");
        Bench.sum(CascadeStore.NULL, "null - 1");
        Bench.sum(CascadeStore.NULL, "null / 0");
        Bench.sum(CascadeStore.NULL, "1 / null");
        Bench.sum(CascadeStore.NULL, "default");
    }

    private static void wraps() {
        String most = "(999999999 * 2 + 147483649)";
        Bench.sum(Integer.MAX_VALUE, most);
        Bench.sum(Integer.MIN_VALUE, most + " + 1");
        Bench.sum(Integer.MIN_VALUE, "-" + most + " - 1");
        Bench.sum(Integer.MAX_VALUE, "-" + most + " - 2");
        Bench.sum(Integer.MIN_VALUE, "-(" + most + " + 1)");
        Bench.sum(Integer.MIN_VALUE, "(" + most + " + 1) / -1");
        Bench.sum(999999999 * 999999999, "999999999 * 999999999");
        Bench.sum(1, most + " * " + most);
    }

    /** Of rows with x from -1 to 1 and one that has NULL, those are told that are deleted by the test. */
    private static void test(String due, String test) {
        Bench b = Bench.with("table a (x)", "insert a (-1)", "insert a (0)", "insert a (1)", "insert a (null)");
        b.does("table b (x)", "trigger t after delete on a do insert b (old.x)");
        b.does("delete a where " + test);
        StringBuilder gone = new StringBuilder();
        for (int k = 0; k < b.store.table(1, 1); k++) {
            long x = b.store.value(1, k, 0);
            gone.append(k == 0 ? "" : " ").append(x == CascadeStore.NULL ? "null" : String.valueOf(x));
        }
        Bench.isText(test, gone.toString(), due);
    }

    private static void tests() {
        test("0", "x = 0");
        test("-1 1", "x # 0");
        test("-1", "x < 0");
        test("-1 0", "x <= 0");
        test("1", "x > 0");
        test("0 1", "x >= 0");
        test("null", "x is null");
        test("-1 0 1", "x is some");
        test("", "x = null");
        test("", "x # null");
        test("", "null >= x");
        test("null", "x + 1 is null");
        test("-1 1", "not x = 0");
        test("0", "not x # 0");
        test("-1 0 1 null", "1 = 1");
        test("-1 1", "x = 1 or x = -1");
        test("0", "x > -1 and x < 1");
        test("-1 1", "x = -1 or x > -1 and x # 0");
        test("", "[x = -1 or x > -1] and x # x");
        test("0 1", "[x = -1 or x > -1] and x # -1");
        test("0 1", "not x = -1 and x = x");
        test("-1 0 1 null", "not [x = -1 and x # x]  or x is null");
    }

    private static void threeWays() {
        String yes = "1 = 1";
        String no = "1 = 0";
        String open = "1 = null";
        String[] ways = {no, yes, open};
        int[] and = {0, 0, 0, 0, 1, 2, 0, 2, 2};
        int[] or = {0, 1, 2, 1, 1, 1, 2, 1, 2};
        int[] not = {1, 0, 2};
        for (int i = 0; i < 9; i++) {
            Bench.is("and", Bench.way(ways[i / 3] + " and " + ways[i % 3]), and[i]);
            Bench.is("or", Bench.way(ways[i / 3] + " or " + ways[i % 3]), or[i]);
        }
        for (int i = 0; i < 3; i++) {
            Bench.is("not", Bench.way("not " + ways[i]), not[i]);
        }
    }

    private static void inserts() {
        Bench b = Bench.with("table a (x default 5, y default - 6, z)");
        b.does("insert a (default, default, default)", "insert a (1, default, null)", "insert a (null, 2, 1 + 1)");
        b.holds("a", "1: 5 -6 null, 2: 1 -6 null, 3: null 2 2");
        Bench.is("rows more", b.store.told(7), 1);
        b.steps(1, 1);
    }

    private static void updates() {
        Bench b = Bench.with("table a (x, y)", "insert a (1, 2)", "insert a (3, 4)", "insert a (null, 6)");
        b.does("update a set x = y, y = x");
        b.holds("a", "1: 2 1, 2: 4 3, 3: 6 null");
        b.steps(3, 1);
        b.does("update a set y = x * 10 where y < 3");
        b.holds("a", "1: 2 20, 2: 4 3, 3: 6 null");
        b.steps(1, 1);
        b.does("update a set x = 0 where x > 100");
        b.steps(0, 0);
        Bench.is("rows more", b.store.told(7), 0);
        b.does("update a set x = x + 1 where x < 5");
        b.holds("a", "1: 3 20, 2: 5 3, 3: 6 null");
    }

    private static void deletes() {
        Bench b = Bench.with("table a (x)", "insert a (1)", "insert a (2)", "insert a (3)");
        b.does("delete a where x = 2");
        b.holds("a", "1: 1, 3: 3");
        b.does("insert a (4)");
        b.holds("a", "1: 1, 3: 3, 4: 4");
        b.does("delete a");
        Bench.is("rows more", b.store.told(7), -3);
        b.steps(3, 1);
        b.does("insert a (5)");
        b.holds("a", "5: 5");
    }

    private static void divisions() {
        Bench b = Bench.with("table a (x, y)", "insert a (1, 1)", "insert a (2, 0)", "insert a (3, null)");
        String state = b.state();
        b.ends(4, "insert a (1 / 0, 1)");
        b.steps(0, 0);
        b.ends(4, "update a set x = x / y");
        b.steps(1, 1);
        b.ends(4, "delete a where 1 = 1 or x / y = 1");
        b.ends(4, "delete a where x = 3 and 1 / (y * 0) = 1 or x / y is null");
        Bench.isText("state after divisions by 0", b.state(), state);
        for (int what = 0; what <= 4; what++) {
            Bench.is("told(" + what + ")", b.store.told(what), CascadeStore.NONE);
        }
        b.does("update a set x = x / y where y # 0");
        b.does("table c (x, check 1 / x > 0)", "insert c (0)", "insert c (null)");
        b.breaks(0, 3, "insert c (-1)");
        b.does("table d (x, check 1 / x is some)", "insert d (1)");
        b.breaks(1, 2, "insert d (0)");
        b.breaks(1, 2, "insert d (null)");
        b.does("table e (x, check x / 0 is null and x > 5)", "insert e (6)");
        b.breaks(2, 2, "insert e (5)");
    }

    private static void room() {
        Bench b = Bench.with("table a (x)");
        for (int i = 0; i < 40; i++) {
            b.does("insert a (" + i + ")");
        }
        b.ends(6, "insert a (40)");
        b.steps(1, 1);
        Bench.is("rows more", b.store.told(7), 0);
        Bench.is("rows", b.store.table(0, 1), 40);
        Bench.is("the next ROWID", b.store.table(0, 2), 41);
        b.does("delete a where x = 0", "insert a (41)");
        Bench.is("the last one's ROWID", b.store.value(0, 39, CascadeStore.NONE), 41);

        Bench last = Bench.with("table a (x)", "table b (x)", "table c (x)", "table d (x)", "table e (x)",
                "table f (p, q, r, s, t, u)");
        for (int i = 0; i < 40; i++) {
            last.does("insert f (" + i + ", 1, 2, 3, 4, 5)");
        }
        last.does("delete f where p = 0", "delete f where p = 39", "delete f where p = 20");
        Bench.is("rows", last.store.table(5, 1), 37);
        Bench.is("the last one's last value", last.store.value(5, 36, 5), 5);
        Bench.is("the last one's first value", last.store.value(5, 36, 0), 38);
        last.does("delete f");
        last.holds("f", "");
    }
}
