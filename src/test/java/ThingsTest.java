/** Promises 7 to 12: table, value, rule, trigger, broken and clear. */
final class ThingsTest {
    private static final int[] FAR = {-1, 100, Integer.MAX_VALUE, Integer.MIN_VALUE};

    public static void main(String[] args) {
        tables();
        values();
        rules();
        triggers();
        broken();
        clears();
        Bench.finish();
    }

    private static void tables() {
        Bench b = Bench.with("table a (x)", "table bb (p, q9)", "insert bb (1, 2)", "insert bb (3, 4)", "delete bb where p = 3");
        CascadeStore s = b.store;
        Bench.is("columns", s.table(1, 0), 2);
        Bench.is("rows", s.table(1, 1), 1);
        Bench.is("the next ROWID", s.table(1, 2), 3);
        Bench.is("name", s.table(1, 3), Bench.packed("bb"));
        Bench.is("the first column's name", s.table(1, 4), 'p');
        Bench.is("the second column's name", s.table(1, 5), Bench.packed("q9"));
        Bench.is("the next ROWID of a table without rows", s.table(0, 2), 1);
        for (int what = 6; what <= 9; what++) {
            int asked = what;
            Bench.noIndex("table(1, " + what + ")", () -> s.table(1, asked));
        }
        for (int what : new int[] {-1, 10, Integer.MAX_VALUE, Integer.MIN_VALUE}) {
            Bench.noArgument("table(1, " + what + ")", () -> s.table(1, what));
            Bench.noIndex("table(2, " + what + ")", () -> s.table(2, what));
        }
        for (int table : new int[] {-1, 2, 5, 6, Integer.MAX_VALUE, Integer.MIN_VALUE}) {
            Bench.noIndex("table(" + table + ", 0)", () -> s.table(table, 0));
        }
        b.does("drop table a");
        Bench.noIndex("a table that was dropped", () -> s.table(0, 0));
        b.does("table c (p, q, r, s, t, u)");
        Bench.is("the last column's name", s.table(0, 9), 'u');
    }

    private static void values() {
        Bench b = Bench.with("table a (x, y)", "insert a (1, null)", "insert a (-5, 6)", "insert a (7, 8)", "delete a where x = 1");
        CascadeStore s = b.store;
        Bench.is("ROWID", s.value(0, 0, -1), 2);
        Bench.is("value", s.value(0, 0, 0), -5);
        Bench.is("value of the last row", s.value(0, 1, 1), 8);
        b.does("update a set y = null");
        Bench.is("NULL", s.value(0, 1, 1), CascadeStore.NULL);
        for (int far : FAR) {
            Bench.noIndex("value of table " + far, () -> s.value(far, 0, 0));
            Bench.noIndex("value of row " + far, () -> s.value(0, far, 0));
            Bench.noIndex("ROWID of row " + far, () -> s.value(0, far, -1));
            Bench.noIndex("value of column " + (far - 1), () -> s.value(0, 0, far - 1));
        }
        Bench.noIndex("value of table 1", () -> s.value(1, 0, 0));
        Bench.noIndex("value of row 2", () -> s.value(0, 2, 0));
        Bench.noIndex("value of column 2", () -> s.value(0, 0, 2));
        Bench.noIndex("value of column -2", () -> s.value(0, 0, -2));
    }

    private static void told(CascadeStore s, int rule, int... due) {
        for (int what = 0; what < due.length; what++) {
            Bench.is("rule(" + rule + ", " + what + ")", s.rule(rule, what), due[what]);
        }
    }

    private static void rules() {
        Bench b = Bench.with("table a (x, y must, z, primary (z, x), unique (y) late, check x < y late)",
                "table b (p, q, unique (p), refer (q) to a (y) delete stop update default late, "
                        + "refer (q, p) to a (z, x) update cascade, refer (q) to b (p) delete null)");
        CascadeStore s = b.store;
        told(s, 0, 0, 0, 2, -1, 0, 0, 0, 0);
        told(s, 1, 1, 0, 5, -1, 0, 0, 0, 0);
        told(s, 2, 2, 0, 2, -1, 1, 0, 0, 0);
        told(s, 3, 3, 0, 0, -1, 1, 0, 0, 0);
        told(s, 4, 2, 1, 1, -1, 0, 0, 0, 0);
        told(s, 5, 4, 1, 2, 0, 1, 0, 1, 4);
        told(s, 6, 4, 1, 3, 0, 0, 0, 0, 2);
        told(s, 7, 4, 1, 2, 1, 0, 0, 3, 0);
        b.does("begin", "now 3");
        Bench.is("waits", s.rule(2, 5), 1);
        Bench.is("waits not", s.rule(3, 5), 0);
        Bench.is("may not wait", s.rule(4, 5), 0);
        b.does("commit");
        Bench.is("waits not outside", s.rule(2, 5), 0);
        for (int what : new int[] {-1, 8, Integer.MAX_VALUE, Integer.MIN_VALUE}) {
            Bench.noArgument("rule(0, " + what + ")", () -> s.rule(0, what));
            Bench.noIndex("rule(8, " + what + ")", () -> s.rule(8, what));
        }
        for (int rule : new int[] {-1, 8, 23, 24, Integer.MAX_VALUE, Integer.MIN_VALUE}) {
            Bench.noIndex("rule(" + rule + ", 0)", () -> s.rule(rule, 0));
        }
        b.does("drop table b", "table c (x default 1 must)");
        told(s, 4, 0, 1, 1, -1, 0, 0, 0, 0);
        Bench.noIndex("a rule that was dropped", () -> s.rule(5, 0));
    }

    private static void told(CascadeStore s, int trigger, long name, int... due) {
        for (int what = 0; what < due.length; what++) {
            Bench.is("trigger(" + trigger + ", " + what + ")", s.trigger(trigger, what), due[what]);
        }
        Bench.is("trigger(" + trigger + ", 5)", s.trigger(trigger, 5), name);
    }

    private static void triggers() {
        Bench b = Bench.with("table a (x)", "table b (y)",
                "trigger t before insert on b do insert a (1)", "trigger s9 after update on a do update b set y = 1",
                "trigger r after delete on b do delete b", "trigger q before update on b do let y = 1",
                "trigger p before delete on a do raise 7");
        CascadeStore s = b.store;
        told(s, 0, Bench.packed("t"), 1, 0, 0, 0, 0);
        told(s, 1, Bench.packed("s9"), 0, 1, 1, 1, 1);
        told(s, 2, Bench.packed("r"), 1, 1, 2, 2, 1);
        told(s, 3, Bench.packed("q"), 1, 0, 1, 3, -1);
        told(s, 4, Bench.packed("p"), 0, 0, 2, 4, -1);
        for (int what : new int[] {-1, 6, Integer.MAX_VALUE, Integer.MIN_VALUE}) {
            Bench.noArgument("trigger(0, " + what + ")", () -> s.trigger(0, what));
            Bench.noIndex("trigger(5, " + what + ")", () -> s.trigger(5, what));
        }
        for (int trigger : new int[] {-1, 5, 7, 8, Integer.MAX_VALUE, Integer.MIN_VALUE}) {
            Bench.noIndex("trigger(" + trigger + ", 0)", () -> s.trigger(trigger, 0));
        }
        b.does("drop trigger t");
        Bench.noIndex("a trigger that was dropped", () -> s.trigger(0, 0));
        Bench.is("the others stay", s.trigger(4, 4), -1);
    }

    private static void broken() {
        Bench b = Bench.with("table a (x, y, unique (x) late, check y > 0 late, primary (y) late)",
                "table b (z, refer (z) to a (x) late)", "insert a (1, 1)", "begin");
        CascadeStore s = b.store;
        Bench.is("broken", s.broken(0), -1);
        b.does("insert a (2, 0)", "insert a (1, null)", "insert a (1, 0)", "insert b (null)", "insert b (7)");
        Bench.is("unique", s.broken(0), 3);
        Bench.is("check", s.broken(1), 2);
        Bench.is("primary", s.broken(2), 3);
        Bench.is("refer", s.broken(3), 2);
        b.does("update a set x = 7 where x = 2");
        Bench.is("refer", s.broken(3), -1);
        for (int rule : new int[] {-1, 4, 23, 24, Integer.MAX_VALUE, Integer.MIN_VALUE}) {
            Bench.noIndex("broken(" + rule + ")", () -> s.broken(rule));
        }
        b.does("back");
        Bench.is("broken after back", s.broken(0), -1);
    }

    private static void clears() {
        Bench b = Bench.with("table a (x must, y default 3, check x > 0 late)", "trigger t after insert on a do raise 1",
                "begin", "mark m");
        b.ends(3, "insert a (1, default)");
        b.feed("insert");
        b.store.clear();
        Bench.isText("state after clear", b.state(), new Bench().state());
        for (int what = 0; what <= 7; what++) {
            Bench.is("told(" + what + ") after clear", b.store.told(what), what <= 4 ? -1 : 0);
        }
        Bench.is("mark after clear", b.store.find(2, 'm'), -1);
        b.ends(7, "back");
        b.does("table a (x, y)", "insert a (default, default)");
        b.holds("a", "1: null null");
        b.does("table b (x, unique (x))", "table c (x)", "table d (x)", "table e (x)", "table f (x)", "insert f (1)");
        b.store.clear();
        b.store.clear();
        Bench.isText("state after two more", b.state(), new Bench().state());
        b.does("table z (x)", "begin", "insert z (1)", "mark q", "commit");
        b.holds("z", "1: 1");
    }
}
