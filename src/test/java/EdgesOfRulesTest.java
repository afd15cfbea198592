/** Section 4 RULES: the edges of what breaks a rule, of which one is told, and of what is left behind. */
final class EdgesOfRulesTest {
    public static void main(String[] args) {
        changesAlone();
        musts();
        primaries();
        uniques();
        checks();
        refers();
        dividedInChecks();
        firstRuleFirstRow();
        allIsAsBefore();
        brokenAsThingsAre();
        Bench.finish();
    }

    private static void changesAlone() {
        Bench.sentence("When a statement that is a CHANGE has been done, all rules but those that wait are looked at");
        Bench b = Bench.with("table a (x, unique (x), check x > 0 late)", "table b (x)", "begin", "insert a (0)");
        b.does("insert b (1)", "mark m", "back to m", "late all");
        b.breaks(1, 1, "now 1");
        b.does("update a set x = 1", "now 1", "mark n", "late 1", "update a set x = 0", "mark m");
        b.does("update a set x = 1", "now 1", "back to m", "mark o");
        Bench.is("broken", b.store.broken(1), 1);
        b.breaks(1, 1, "insert b (2)");
        b.breaks(1, 1, "delete b where x = 9");
        b.steps(0, 0);
        b.breaks(1, 1, "update b set x = x");
        b.holds("b", "1: 1");
        b.does("delete a");
    }

    private static void musts() {
        Bench.sentence("must: if it has NULL there");
        Bench b = Bench.with("table a (x must, y)", "insert a (0, null)");
        b.breaks(0, 2, "insert a (null, 0)");
        b.breaks(0, 2, "insert a (default, 0)");
        b.breaks(0, 1, "update a set x = y");
    }

    private static void primaries() {
        Bench.sentence("primary: if one of its columns is NULL, or a row with a lesser ROWID has the same there");
        Bench b = Bench.with("table a (x, y, primary (x, y))", "insert a (1, 1)", "insert a (1, 2)", "insert a (2, 1)");
        b.breaks(0, 4, "insert a (1, 2)");
        b.breaks(0, 4, "insert a (null, 1)");
        b.breaks(0, 4, "insert a (1, null)");
        b.breaks(0, 4, "insert a (null, null)");
        b.breaks(0, 3, "update a set x = 1 where x = 2");
        b.breaks(0, 3, "update a set x = 1, y = 1 where x = 2");
        b.breaks(0, 2, "update a set y = 1");
        b.breaks(0, 2, "update a set y = null where y = 2");
        b.breaks(0, 1, "update a set y = null");
        b.does("update a set x = y, y = x", "delete a where y = 1", "insert a (5, 5)");
        Bench one = Bench.with("table a (x, primary (x))", "insert a (0)");
        one.breaks(0, 2, "insert a (0)");
        one.breaks(0, 2, "insert a (null)");
    }

    private static void uniques() {
        Bench.sentence("unique: if none is NULL, and a row with a lesser ROWID has the same");
        Bench b = Bench.with("table a (x, y, unique (x, y))", "insert a (1, 1)", "insert a (1, null)", "insert a (1, null)",
                "insert a (null, 1)", "insert a (null, 1)", "insert a (null, null)", "insert a (null, null)", "insert a (1, 2)");
        b.breaks(0, 9, "insert a (1, 1)");
        b.breaks(0, 8, "update a set y = 1 where y = 2");
        b.breaks(0, 2, "update a set y = 1 where x = 1 and y is null");
        b.breaks(0, 4, "update a set x = 1 where y = 1");
        b.does("delete a where y = 1 and x = 1", "insert a (1, 1)", "update a set y = 3 - y where x = 1");
        Bench all = Bench.with("table a (p, q, r, s, t, u, unique (p, q, r, s, t, u))", "insert a (1, 2, 3, 4, 5, 6)",
                "insert a (1, 2, 3, 4, 5, 7)", "insert a (0, 2, 3, 4, 5, 6)");
        all.breaks(0, 4, "insert a (1, 2, 3, 4, 5, 6)");
        all.does("insert a (1, 2, 3, 4, 5, null)", "insert a (1, 2, 3, 4, 5, null)");
    }

    private static void checks() {
        Bench.sentence("check: if its TEST is no");
        Bench b = Bench.with("table a (x, check x < 5)", "insert a (4)", "insert a (null)");
        b.breaks(0, 3, "insert a (5)");
        b.breaks(0, 1, "update a set x = x + 1");
        Bench not = Bench.with("table a (x, check not x = 1, check x is some or x is null)", "insert a (null)", "insert a (2)");
        not.breaks(0, 3, "insert a (1)");
        Bench is = Bench.with("table a (x, check x is some)");
        is.breaks(0, 1, "insert a (null)");
        is.does("insert a (0)");
        Bench never = Bench.with("table a (x, check 1 = 0)", "table b (x, check null = 0)", "insert b (1)", "update a set x = 1");
        never.breaks(0, 1, "insert a (1)");
    }

    private static void refers() {
        Bench.sentence("refer: if none is NULL, and no row of the other table has just these there");
        Bench b = Bench.with("table a (x, y, unique (x, y))", "table b (p, q, refer (p, q) to a (x, y))", "insert a (1, 2)",
                "insert a (3, 4)", "insert a (5, null)", "insert b (1, 2)", "insert b (1, null)", "insert b (null, 9)", "insert b (null, null)");
        b.breaks(1, 5, "insert b (2, 1)");
        b.breaks(1, 5, "insert b (1, 4)");
        b.breaks(1, 5, "insert b (5, 0)");
        b.breaks(1, 1, "delete a where x = 1");
        b.does("insert b (5, null)", "insert b (3, 4)", "delete a where y is null");
        b.breaks(1, 6, "update a set y = 5 where x = 3");
        b.breaks(1, 1, "delete a");
        Bench self = Bench.with("table a (x, y, unique (x), refer (y) to a (x))", "insert a (1, 1)");
        self.breaks(1, 2, "insert a (2, 3)");
        self.does("insert a (2, 2)", "update a set y = 3 - y", "delete a");
    }

    private static void dividedInChecks() {
        Bench.sentence("(In checks what is divided by 0 is NULL.)");
        Bench b = Bench.with("table a (x, check 10 / x = 5)", "insert a (0)", "insert a (2)", "update a set x = 0 where x = 2");
        b.breaks(0, 3, "insert a (3)");
        Bench is = Bench.with("table a (x, check 1 / x is some)", "insert a (1)");
        is.breaks(0, 2, "insert a (0)");
        Bench null1 = Bench.with("table a (x, check x / 0 is null and (x / 0) * 0 + 1 is null)", "insert a (5)", "insert a (null)");
        Bench.is("not broken", null1.store.broken(0), CascadeStore.NONE);
        Bench other = Bench.with("table a (x, check 1 / x < 5 or x = 0)", "trigger t before insert on a when new.x = 7 do let x = 1 / 0");
        other.does("insert a (0)");
        other.ends(4, "insert a (7)");
        other.ends(4, "update a set x = 1 / x");
        other.ends(4, "delete a where 1 / x is null");
    }

    private static void firstRuleFirstRow() {
        Bench.sentence("The first broken one, and of that the row with the least ROWID, is told");
        Bench b = Bench.with("table z (x must)", "table a (x, y, check x > 0, check y > 0)", "drop table z", "table b (x, check x > 0)",
                "insert a (1, 1)", "insert a (1, 1)", "insert b (1)");
        b.breaks(1, 1, "update a set x = 0, y = 0");
        b.breaks(2, 1, "update a set y = 0");
        b.does("update b set x = 7", "insert a (2, 2)");
        b.breaks(1, 3, "update a set x = 0 where x = 2");
        b.does("trigger t after update on a do update b set x = 0");
        b.breaks(0, 1, "update a set x = 0, y = 0");
        b.breaks(0, 1, "update a set x = 5");
    }

    private static void allIsAsBefore() {
        Bench.sentence("then all is as before the statement. (So it is whenever a statement ends by something: ROWIDS too.)");
        String[] ends = {"raise 3", "insert a (1 / 0)", "insert c (1)", "insert a (0)", "insert f (1)"};
        int[] due = {3, 4, 5, 2, 6};
        for (int i = 0; i < ends.length; i++) {
            Bench b = Bench.with("table a (x, check x # 0)", "table b (x, unique (x))", "table c (x)", "table d (x)", "table f (x)",
                    "table e (x, refer (x) to b (x) delete cascade)", "insert a (1)", "insert b (1)", "insert b (2)", "insert e (1)");
            for (int row = 0; row < 40; row++) {
                b.does("insert f (0)");
            }
            b.does("trigger t after delete on b when old.x = 2 do " + ends[i], "trigger s after insert on c do insert c (1)",
                    "trigger r before delete on b do insert d (old.x)", "trigger q after delete on e do update a set x = x + 1");
            String state = b.state();
            b.ends(due[i], "delete b");
            Bench.isText("state behind an end with " + due[i], b.state(), state);
            Bench.is("rows more", b.store.told(7), 0);
            Bench.is("steps were begun", b.store.told(5) > 3 ? 1 : 0, 1);
            b.does("drop trigger t", "delete b");
            b.holds("a", "1: 2");
            b.holds("d", "1: 1, 2: 2");
            b.holds("e", "");
        }
    }

    private static void brokenAsThingsAre() {
        Bench.sentence("broken: The first row by which a rule is broken as things are now .. (Also of one that waits.)");
        Bench b = Bench.with("table a (x, y, primary (x) late, unique (y) late, check x < y late)",
                "table b (p, refer (p) to a (x) late, check p # 7)", "begin");
        for (int rule = 0; rule < 5; rule++) {
            Bench.is("of no rows, rule " + rule, b.store.broken(rule), CascadeStore.NONE);
        }
        b.does("insert a (1, 2)", "insert a (null, 2)", "insert a (1, 1)", "insert b (2)", "insert b (3)");
        int[] due = {2, 2, 3, 1, -1};
        for (int rule = 0; rule < 5; rule++) {
            Bench.is("rule " + rule, b.store.broken(rule), due[rule]);
        }
        b.does("update a set x = 2 where x is null", "delete b where p = 2", "update a set y = 9 where x = 1");
        int[] then = {3, 3, 2, 2, -1};
        for (int rule = 0; rule < 5; rule++) {
            Bench.is("rule " + rule + " then", b.store.broken(rule), then[rule]);
        }
        for (int rule : new int[] {5, 23, 24, 31, 32, -1, Integer.MAX_VALUE, Integer.MIN_VALUE}) {
            Bench.noIndex("broken(" + rule + ")", () -> b.store.broken(rule));
        }
    }
}
