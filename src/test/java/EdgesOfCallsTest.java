/** Promises 1, 2 and 4 to 12: the edges of each call, and what a refused one leaves as it was. */
final class EdgesOfCallsTest {
    private static final int[] FAR = {Integer.MIN_VALUE, Integer.MIN_VALUE + 1, -1000, 1000, 1 << 16, Integer.MAX_VALUE - 1,
        Integer.MAX_VALUE};

    public static void main(String[] args) {
        newObject();
        feedOfEachLength();
        feedRefused();
        feedOfAFullTape();
        runEmptiesTheTape();
        told();
        toldOfTheLatestRunAlone();
        toldOfRows();
        counts();
        finds();
        findsWithoutATable();
        tables();
        values();
        rules();
        triggers();
        clears();
        clearedIsAsNew();
        refusedCallsChangeNothing();
        lastCalls();
        Bench.finish();
    }

    private static void newObject() {
        Bench.sentence("Promise 1: Nothing told, an empty tape");
        CascadeStore s = new CascadeStore();
        for (int what = 0; what <= 7; what++) {
            Bench.is("told(" + what + ")", s.told(what), what <= 4 ? CascadeStore.NONE : 0);
        }
        for (int what = 0; what <= 6; what++) {
            Bench.is("count(" + what + ")", s.count(what), 0);
        }
        for (int kind = 0; kind <= 8; kind++) {
            Bench.is("find(" + kind + ")", s.find(kind, 'a'), CascadeStore.NONE);
        }
        for (int i = 0; i < 25; i++) {
            int number = i;
            Bench.noIndex("table " + i, () -> s.table(number, 0));
            Bench.noIndex("value " + i, () -> s.value(number, 0, 0));
            Bench.noIndex("rule " + i, () -> s.rule(number, 0));
            Bench.noIndex("trigger " + i, () -> s.trigger(number, 0));
            Bench.noIndex("broken " + i, () -> s.broken(number));
        }
        Bench.is("the tape is no statement", s.run(), 1);
        Bench.isText("its fault", s.told(0) + " at " + s.told(1), "2 at 0");
    }

    private static void feedOfEachLength() {
        Bench.sentence("Promise 2: The lowest n bytes of a number, the highest of these first, come behind the tape: how many it has");
        for (int n = 1; n <= 8; n++) {
            CascadeStore s = new CascadeStore();
            s.feed(Bench.packed("mark "), 5);
            String name = "abcdefgh".substring(8 - n);
            Bench.is("feed of " + n, s.feed(Bench.packed("abcdefgh"), n), 5 + n);
            Bench.is("count of " + n, s.count(6), 5 + n);
            Bench.is("mark " + name + " outside", s.run(), 7);
            s.feed(Bench.packed("begin"), 5);
            s.run();
            s.feed(Bench.packed("mark "), 5);
            s.feed(Bench.packed("abcdefgh"), n);
            Bench.is("mark " + name, s.run(), 0);
            Bench.is("find " + name, s.find(2, Bench.packed(name)), 0);
        }
        CascadeStore s = new CascadeStore();
        Bench.is("bits above are left out", s.feed(0xFFFFFFFFFFFFFF00L | 'b', 1), 1);
        Bench.is("also of six", s.feed(0xFFFF000000000000L | Bench.packed("egin  "), 6), 7);
        Bench.is("begin", s.run(), 0);
        Bench.is("the highest byte of eight", s.feed(Long.MIN_VALUE, 8), 8);
        Bench.is("it begins no token", s.run(), 1);
        Bench.isText("its fault", s.told(0) + " at " + s.told(1), "1 at 0");
    }

    private static void feedRefused() {
        Bench.sentence("Promise 2: IllegalArgument: n is not 1 .. 8");
        CascadeStore s = new CascadeStore();
        s.feed(Bench.packed("beg"), 3);
        for (int n : new int[] {0, -1, 9, 10, 16, 64, -8, 256 + 1}) {
            Bench.noArgument("feed of " + n, () -> s.feed(Bench.packed("in"), n));
        }
        for (int n : FAR) {
            Bench.noArgument("feed of " + n, () -> s.feed(Bench.packed("in"), n));
        }
        Bench.is("the tape is as it was", s.count(6), 3);
        Bench.is("the rest", s.feed(Bench.packed("in"), 2), 5);
        Bench.is("begin", s.run(), 0);
    }

    private static void feedOfAFullTape() {
        Bench.sentence("Promise 2: IllegalState: there would be more than 600");
        for (int n = 1; n <= 8; n++) {
            CascadeStore s = new CascadeStore();
            s.feed(Bench.packed("begin"), 5);
            for (int length = 5; length + 8 <= 600 - n; length += 8) {
                s.feed(0x2020202020202020L, 8);
            }
            while (s.count(6) < 600 - n) {
                s.feed(' ', 1);
            }
            int more = n + 1;
            if (more <= 8) {
                Bench.refused("feed of " + more, IllegalStateException.class, () -> s.feed(-1, more));
            }
            Bench.is("the tape is as it was", s.count(6), 600 - n);
            Bench.is("feed of " + n, s.feed(0x2020202020202020L, n), 600);
            for (int length = 1; length <= 8; length++) {
                int bytes = length;
                Bench.refused("feed of " + length, IllegalStateException.class, () -> s.feed(-1, bytes));
            }
            Bench.noArgument("feed of 0", () -> s.feed(-1, 0));
            Bench.noArgument("feed of 9", () -> s.feed(-1, 9));
            Bench.is("the tape is full", s.count(6), 600);
            Bench.is("begin", s.run(), 0);
            Bench.is("then there is room", s.feed(' ', 8), 8);
        }
    }

    private static void runEmptiesTheTape() {
        Bench.sentence("Promise 3: The tape, which is empty then, is a statement");
        Bench b = Bench.with("table a (x, check x < 9)", "trigger t before insert on a when new.x = 3 do raise 3");
        String[] statements = {"insert a (1)", "insert a (", "insert a (9)", "insert a (3)", "insert a (1 / 0)", "commit"};
        int[] due = {0, 1, 2, 3, 4, 7};
        for (int i = 0; i < due.length; i++) {
            b.ends(due[i], statements[i]);
            Bench.is("bytes behind " + statements[i], b.store.count(6), 0);
        }
        b.does("trigger s after insert on a do insert a (0)");
        b.ends(5, "insert a (1)");
        Bench.is("bytes", b.store.count(6), 0);
    }

    private static void told() {
        Bench.sentence("Promise 4: (NONE each of 0 to 4 if it ended otherwise, and before one)");
        Bench b = Bench.with("table a (x, check x < 9)", "trigger t before insert on a when new.x = 3 do raise 0", "insert a (1)");
        tells(b, "insert a (2)", 0, "-1 -1 -1 -1 -1 1 1 1");
        tells(b, "insert a (2", 1, "2 11 -1 -1 -1 0 0 0");
        tells(b, "", 1, "2 0 -1 -1 -1 0 0 0");
        tells(b, "insert a (9)", 2, "-1 -1 0 3 -1 1 1 0");
        tells(b, "insert a (3)", 3, "-1 -1 -1 -1 0 1 1 0");
        tells(b, "insert a (1 / 0)", 4, "-1 -1 -1 -1 -1 0 0 0");
        tells(b, "update a set x = 8 / (2 - x)", 4, "-1 -1 -1 -1 -1 1 1 0");
        tells(b, "commit", 7, "-1 -1 -1 -1 -1 0 0 0");
        tells(b, "delete a where x = 5", 0, "-1 -1 -1 -1 -1 0 0 0");
        tells(b, "trigger s after insert on a do insert a (0)", 0, "-1 -1 -1 -1 -1 0 0 0");
        tells(b, "insert a (1)", 5, "-1 -1 -1 -1 -1 12 12 0");
        tells(b, "delete a", 0, "-1 -1 -1 -1 -1 2 1 -2");
        for (int what : new int[] {-1, 8, 9, 256}) {
            Bench.noArgument("told(" + what + ")", () -> b.store.told(what));
        }
        for (int what : FAR) {
            Bench.noArgument("told(" + what + ")", () -> b.store.told(what));
        }
        b.store.clear();
        Bench.isText("told behind clear", allTold(b), "-1 -1 -1 -1 -1 0 0 0");
    }

    private static void tells(Bench b, String statement, int end, String due) {
        b.ends(end, statement);
        Bench.isText("told of '" + statement + "'", allTold(b), due);
    }

    private static String allTold(Bench b) {
        StringBuilder all = new StringBuilder();
        for (int what = 0; what <= 7; what++) {
            all.append(what == 0 ? "" : " ").append(b.store.told(what));
        }
        return all.toString();
    }

    private static void toldOfTheLatestRunAlone() {
        Bench.sentence("Promise 4: Of the latest run()");
        Bench b = Bench.with("table a (x, primary (x))", "table b (p, refer (p) to a (x) delete stop)", "insert a (4)", "insert a (5)",
                "insert b (5)");
        b.breaks(1, 2, "delete a");
        b.steps(2, 1);
        b.feed("insert a");
        b.store.broken(0);
        Bench.noIndex("a table 7", () -> b.store.table(7, 0));
        Bench.isText("told as it was", allTold(b), "-1 -1 1 2 -1 2 1 0");
        b.store.run();
        Bench.isText("told of the next", allTold(b), "2 8 -1 -1 -1 0 0 0");
    }

    private static void toldOfRows() {
        Bench.sentence("Promise 4: 7 how many more rows there are behind it than before it (less: below 0; 0 where all is as before)");
        Bench b = Bench.with("table a (x)", "table b (x)", "trigger t after insert on a do insert b (new.x)",
                "trigger s after update on a do delete b where x = old.x", "trigger r after delete on a do insert b (old.x)");
        int[] due = {2, 2, -2, 0, 0, 0, 0};
        String[] statements = {"insert a (1)", "insert a (2)", "update a set x = 9", "delete a where x = 9", "update b set x = 3",
            "begin", "mark m"};
        for (int i = 0; i < due.length; i++) {
            b.does(statements[i]);
            Bench.is("rows more behind " + statements[i], b.store.told(7), due[i]);
        }
        b.does("delete b");
        Bench.is("rows more", b.store.told(7), -2);
        b.does("back to m");
        Bench.is("rows more", b.store.told(7), 2);
        b.does("insert a (1)", "back");
        Bench.is("rows more", b.store.told(7), -2);
        b.does("drop table a");
        Bench.is("rows more", b.store.told(7), 0);
        b.does("drop table b");
        Bench.is("rows more", b.store.told(7), -2);
    }

    private static void counts() {
        Bench.sentence("Promise 5: count .. IllegalArgument: another what");
        Bench b = new Bench();
        for (int i = 0; i < 6; i++) {
            b.does("table t" + i + " (x must, y must, z must, w must)");
            Bench.is("tables", b.store.count(0), i + 1);
            Bench.is("rules", b.store.count(1), 4 * (i + 1));
        }
        for (int i = 0; i < 8; i++) {
            b.does("trigger t" + i + " before insert on t0 when new.x = " + i + " do raise 1");
            Bench.is("triggers", b.store.count(2), i + 1);
            Bench.is("nodes", b.store.count(4), 3 * (i + 1));
        }
        b.does("begin");
        for (int i = 0; i < 6; i++) {
            Bench.is("marks", b.store.count(3), i);
            b.does("mark m" + i);
        }
        Bench.is("marks", b.store.count(3), 6);
        Bench.is("under way", b.store.count(5), 1);
        for (int what : new int[] {-1, 7, 8, 256}) {
            Bench.noArgument("count(" + what + ")", () -> b.store.count(what));
        }
        for (int what : FAR) {
            Bench.noArgument("count(" + what + ")", () -> b.store.count(what));
        }
    }

    private static void finds() {
        Bench.sentence("Promise 6: find .. with a name, its letters as bytes, the first one highest; NONE");
        Bench b = Bench.with("table abcdefgh (zyxwvuts, a)", "table a (b)", "trigger abcdefgh before insert on a do raise 1",
                "trigger a before insert on a do raise 1", "begin", "mark b", "mark abcdefgh");
        CascadeStore s = b.store;
        long eight = Bench.packed("abcdefgh");
        Bench.is("table of eight letters", s.find(0, eight), 0);
        Bench.is("table of one", s.find(0, 'a'), 1);
        Bench.is("trigger of eight letters", s.find(1, eight), 0);
        Bench.is("trigger of one", s.find(1, 'a'), 1);
        Bench.is("mark of eight letters", s.find(2, eight), 1);
        Bench.is("mark of one", s.find(2, 'b'), 0);
        Bench.is("column of eight letters", s.find(3, Bench.packed("zyxwvuts")), 0);
        Bench.is("column of one", s.find(3, 'a'), 1);
        Bench.is("column of the second table", s.find(4, 'b'), 0);
        long[] none = {0, -1, 1, 'z', (long) 'a' << 8, (long) 'a' << 56, Bench.packed("hgfedcba"), Bench.packed("bcdefgh"),
            Bench.packed("abcdefg"), Bench.packed("A"), Bench.packed("table"), Bench.packed("a "), Bench.packed(" a"), Long.MIN_VALUE,
            Long.MAX_VALUE};
        for (int kind = 0; kind <= 8; kind++) {
            for (long name : none) {
                Bench.is("find(" + kind + ", " + name + ")", s.find(kind, name), CascadeStore.NONE);
            }
        }
        for (int kind : new int[] {-1, 9, 10, 256}) {
            Bench.noArgument("find(" + kind + ")", () -> s.find(kind, 'a'));
        }
        for (int kind : FAR) {
            Bench.noArgument("find(" + kind + ")", () -> s.find(kind, 'a'));
        }
    }

    private static void findsWithoutATable() {
        Bench.sentence("Promise 6: of the column (3 + t) of table t with it; NONE");
        Bench b = Bench.with("table a (x)", "table b (y)", "drop table a");
        Bench.is("column of a table that went", b.store.find(3, 'x'), CascadeStore.NONE);
        Bench.is("column of one that is there", b.store.find(4, 'y'), 0);
        Bench.is("column of one that never was", b.store.find(8, 'y'), CascadeStore.NONE);
        b.does("table c (z)");
        Bench.is("column of what came there", b.store.find(3, 'z'), 0);
        Bench.is("column of what was there", b.store.find(3, 'x'), CascadeStore.NONE);
        b.does("table d (p, q, r, s, t, u)", "table e (x)", "table f (x)", "table g (v, w)");
        Bench.is("the last column of a table", b.store.find(5, 'u'), 5);
        Bench.is("the last table's column", b.store.find(8, 'w'), 1);
    }

    private static void tables() {
        Bench.sentence("Promise 7: that of column what - 4 (4 .. 9; IndexOutOfBounds: there is none). IllegalArgument: another what");
        Bench b = Bench.with("table a (p, q, r, s, t, u)", "table b (abcdefgh)", "table c (x, y, z, w, v)", "insert b (1)", "delete b");
        CascadeStore s = b.store;
        for (int column = 0; column < 6; column++) {
            Bench.is("column " + column, s.table(0, 4 + column), "pqrstu".charAt(column));
            int what = 5 + column;
            if (what <= 9) {
                Bench.noIndex("table(1, " + what + ")", () -> s.table(1, what));
            }
        }
        Bench.is("a column of eight letters", s.table(1, 4), Bench.packed("abcdefgh"));
        Bench.is("the fifth column", s.table(2, 8), 'v');
        Bench.noIndex("a sixth column", () -> s.table(2, 9));
        Bench.is("rows", s.table(1, 1), 0);
        Bench.is("the ROWID that the next row gets", s.table(1, 2), 2);
        for (int what : new int[] {-1, 10, 11, 256}) {
            Bench.noArgument("table(0, " + what + ")", () -> s.table(0, what));
            Bench.noIndex("table(3, " + what + ")", () -> s.table(3, what));
        }
        for (int far : FAR) {
            Bench.noArgument("table(0, " + far + ")", () -> s.table(0, far));
            Bench.noIndex("table(" + far + ", 0)", () -> s.table(far, 0));
            Bench.noIndex("table(" + far + ", -1)", () -> s.table(far, -1));
        }
        for (int table : new int[] {-1, 3, 5, 6, 7}) {
            Bench.noIndex("table(" + table + ", 3)", () -> s.table(table, 3));
        }
    }

    private static void values() {
        Bench.sentence("Promise 8: Of row k of a table, by ROWIDS from 0 on, the value in a column, NULL; its ROWID (column = NONE)");
        Bench b = Bench.with("table a (x, y)", "table b (x)");
        CascadeStore s = b.store;
        Bench.noIndex("a row of none", () -> s.value(0, 0, 0));
        Bench.noIndex("the ROWID of a row of none", () -> s.value(0, 0, CascadeStore.NONE));
        for (int i = 1; i <= 40; i++) {
            b.does("insert a (" + i + ",null)");
        }
        b.does("delete a where x=1", "delete a where x=20");
        Bench.is("the first ROWID", s.value(0, 0, CascadeStore.NONE), 2);
        Bench.is("the last ROWID", s.value(0, 37, CascadeStore.NONE), 40);
        Bench.is("the one behind a gap", s.value(0, 18, CascadeStore.NONE), 21);
        Bench.is("its value", s.value(0, 18, 0), 21);
        Bench.is("NULL", s.value(0, 37, 1), CascadeStore.NULL);
        for (int row : new int[] {-1, 38, 39, 40, 41}) {
            Bench.noIndex("row " + row, () -> s.value(0, row, 0));
            Bench.noIndex("ROWID of row " + row, () -> s.value(0, row, CascadeStore.NONE));
        }
        for (int column : new int[] {-2, 2, 5, 6, 7}) {
            Bench.noIndex("column " + column, () -> s.value(0, 0, column));
        }
        for (int far : FAR) {
            Bench.noIndex("table " + far, () -> s.value(far, 0, 0));
            Bench.noIndex("row " + far, () -> s.value(0, far, 0));
            Bench.noIndex("column " + far, () -> s.value(0, 0, far));
        }
        for (int table : new int[] {-1, 2, 5, 6}) {
            Bench.noIndex("table " + table, () -> s.value(table, 0, CascadeStore.NONE));
        }
        Bench.noIndex("a row of an empty table", () -> s.value(1, 0, 0));
    }

    private static void rules() {
        Bench.sentence("Promise 9: rule .. IllegalArgument: another what");
        Bench b = Bench.with("table a (p, q, r, s, t, u must, primary (u, p), unique (p, q, r, s, t, u) late, check 1 = 1, "
                + "unique (s))", "table b (x, y must, refer (x) to a (s) delete cascade update null, refer (y) to a (s) delete default "
                + "update stop late)");
        String[] due = {"0 0 32 -1 0 0 0 0", "1 0 33 -1 0 0 0 0", "2 0 63 -1 1 0 0 0", "3 0 0 -1 0 0 0 0", "2 0 8 -1 0 0 0 0",
            "0 1 2 -1 0 0 0 0", "4 1 1 0 0 0 2 3", "4 1 2 0 1 0 4 1"};
        for (int rule = 0; rule < due.length; rule++) {
            StringBuilder all = new StringBuilder();
            for (int what = 0; what <= 7; what++) {
                all.append(what == 0 ? "" : " ").append(b.store.rule(rule, what));
            }
            Bench.isText("rule " + rule, all.toString(), due[rule]);
        }
        b.does("begin");
        Bench.is("waits", b.store.rule(2, 5), 1);
        Bench.is("may not wait", b.store.rule(1, 5), 0);
        for (int what : new int[] {-1, 8, 9, 256}) {
            Bench.noArgument("rule(0, " + what + ")", () -> b.store.rule(0, what));
            Bench.noIndex("rule(8, " + what + ")", () -> b.store.rule(8, what));
        }
        for (int far : FAR) {
            Bench.noArgument("rule(0, " + far + ")", () -> b.store.rule(0, far));
            Bench.noIndex("rule(" + far + ", 0)", () -> b.store.rule(far, 0));
            Bench.noIndex("broken(" + far + ")", () -> b.store.broken(far));
        }
        for (int rule : new int[] {-1, 8, 23, 24, 32}) {
            Bench.noIndex("rule(" + rule + ", 0)", () -> b.store.rule(rule, 0));
            Bench.noIndex("broken(" + rule + ")", () -> b.store.broken(rule));
        }
    }

    private static void triggers() {
        Bench.sentence("Promise 10: trigger .. IllegalArgument: another what");
        Bench b = Bench.with("table a (x)", "table b (x)", "trigger a before insert on b do insert a (1)",
                "trigger abcdefgh after update on a do update a set x = 1", "trigger c after delete on a do delete b",
                "trigger d before update on a do let x = 1", "trigger e before delete on b do raise 1");
        String[] due = {"1 0 0 0 0", "0 1 1 1 0", "0 1 2 2 1", "0 0 1 3 -1", "1 0 2 4 -1"};
        for (int trigger = 0; trigger < due.length; trigger++) {
            StringBuilder all = new StringBuilder();
            for (int what = 0; what <= 4; what++) {
                all.append(what == 0 ? "" : " ").append(b.store.trigger(trigger, what));
            }
            Bench.isText("trigger " + trigger, all.toString(), due[trigger]);
        }
        Bench.is("a name of eight letters", b.store.trigger(1, 5), Bench.packed("abcdefgh"));
        for (int what : new int[] {-1, 6, 7, 256}) {
            Bench.noArgument("trigger(0, " + what + ")", () -> b.store.trigger(0, what));
            Bench.noIndex("trigger(5, " + what + ")", () -> b.store.trigger(5, what));
        }
        for (int far : FAR) {
            Bench.noArgument("trigger(0, " + far + ")", () -> b.store.trigger(0, far));
            Bench.noIndex("trigger(" + far + ", 0)", () -> b.store.trigger(far, 0));
        }
        for (int trigger : new int[] {-1, 5, 7, 8}) {
            Bench.noIndex("trigger(" + trigger + ", 5)", () -> b.store.trigger(trigger, 5));
        }
    }

    private static void clears() {
        Bench.sentence("Promise 12: All is as at first");
        String asNew = new Bench().state();
        Bench b = new Bench();
        b.store.clear();
        Bench.isText("a new one, cleared", b.state(), asNew);
        b.feed("table a (x must, unique (x) late, check x > 0)");
        b.store.clear();
        Bench.is("the tape", b.store.count(6), 0);
        Bench.is("run of it", b.store.run(), 1);
        b.does("table a (x default 5 must, unique (x) late)", "table b (x)", "trigger t before insert on a do raise 1", "insert b (1)", "begin",
                "mark m", "insert b (2)");
        b.store.clear();
        Bench.isText("cleared in a transaction", b.state(), asNew);
        Bench.isText("told", allTold(b), "-1 -1 -1 -1 -1 0 0 0");
        b.fault(4, "back to ^m");
        b.ends(7, "back");
        b.does("table a (x)", "insert a (default)");
        b.holds("a", "1: null");
        b.fault(2, "insert a (^");
        b.store.clear();
        Bench.isText("cleared behind a fault", b.state(), asNew);
        Bench.isText("told", allTold(b), "-1 -1 -1 -1 -1 0 0 0");
    }

    private static void clearedIsAsNew() {
        Bench.sentence("Promise 12: All is as at first, whatever comes then");
        String[] first = {"table z (p default 9, q must, unique (p) late)", "trigger t before insert on z do let p = 7", "insert z (1, 2)",
            "insert z (3, 4)", "begin", "mark m", "mark n", "late all", "insert z (5, 6)", "insert z (5, null)"};
        String[] then = {"table a (x, y default 3, check x > 0 late)", "insert a (1, default)", "insert a (0, 0)", "begin", "insert a (0, 0)",
            "mark m", "insert a (null, null)", "back to m", "commit", "drop table a", "table b (x)", "insert b (1)"};
        Bench fresh = new Bench();
        Bench cleared = new Bench();
        for (String statement : first) {
            cleared.say(statement);
        }
        cleared.store.clear();
        for (String statement : then) {
            Bench.is(statement, cleared.say(statement), fresh.say(statement));
            Bench.isText("told of " + statement, allTold(cleared), allTold(fresh));
            Bench.isText("state behind " + statement, cleared.state(), fresh.state());
        }
    }

    private static void refusedCallsChangeNothing() {
        Bench.sentence("IndexOutOfBounds: there is no such .. IllegalArgument: another number");
        Bench b = Bench.with("table a (x, unique (x) late)", "trigger t before delete on a do raise 5", "insert a (1)", "begin", "mark m");
        b.raises(5, "delete a");
        b.feed("commit");
        String state = b.state();
        String told = allTold(b);
        Bench.noArgument("feed", () -> b.store.feed(0, 9));
        Bench.noArgument("told", () -> b.store.told(8));
        Bench.noArgument("count", () -> b.store.count(7));
        Bench.noArgument("find", () -> b.store.find(9, 'a'));
        Bench.noIndex("table", () -> b.store.table(1, 0));
        Bench.noArgument("table", () -> b.store.table(0, 10));
        Bench.noIndex("value", () -> b.store.value(0, 1, 0));
        Bench.noIndex("rule", () -> b.store.rule(1, 0));
        Bench.noArgument("rule", () -> b.store.rule(0, 8));
        Bench.noIndex("trigger", () -> b.store.trigger(1, 0));
        Bench.noArgument("trigger", () -> b.store.trigger(0, 6));
        Bench.noIndex("broken", () -> b.store.broken(1));
        Bench.isText("state", b.state(), state);
        Bench.isText("told", allTold(b), told);
        Bench.is("commit", b.store.run(), 0);
    }

    private static void lastCalls() {
        Bench.sentence("An object is used for at most 512 calls after it has been made");
        CascadeStore s = new CascadeStore();
        s.feed(Bench.packed("table a "), 8);
        s.feed(Bench.packed("(x)"), 3);
        Bench.is("table", s.run(), 0);
        s.feed(Bench.packed("begin"), 5);
        Bench.is("begin", s.run(), 0);
        for (int call = 5; call < 509; call += 3) {
            s.feed(Bench.packed(call % 2 == 0 ? "insert a" : "delete a"), 8);
            s.feed(Bench.packed(call % 2 == 0 ? "(1)" : "   "), 3);
            Bench.is("call " + call, s.run(), 0);
        }
        Bench.is("the next ROWID", s.table(0, 2), 85);
        Bench.is("rows", s.table(0, 1), 1);
        Bench.is("a value of the last call", s.value(0, 0, 0), 1);
    }
}
