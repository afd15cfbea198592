/** Section 5 TRANSACTIONS: the edges of begin, commit, back, marks and of rules that wait. */
final class EdgesOfTransactionsTest {
    public static void main(String[] args) {
        outside();
        inside();
        oneFaultThenNotNow();
        nothingInIt();
        whichRulesWait();
        untilNowNamesThem();
        nowOfABrokenOne();
        tillLateNamesThem();
        numbersTwice();
        marks();
        markOfTheSameName();
        backTo();
        rowIdsOfBackTo();
        whichWaitIsKeptByBackTo();
        backs();
        commits();
        commitsOfBrokenRules();
        endsInside();
        Bench.finish();
    }

    private static void outside() {
        Bench.sentence("Outside of transactions no rule waits, and commit, back, mark, late, now can't be done");
        Bench b = Bench.with("table a (x, unique (x) late)", "insert a (1)");
        String state = b.state();
        for (String statement : new String[] {"commit", "back", "mark m", "late all", "now all", "late 0", "now 0"}) {
            b.ends(7, statement);
            for (int what = 0; what <= 4; what++) {
                Bench.is("told(" + what + ") of " + statement, b.store.told(what), CascadeStore.NONE);
            }
            b.steps(0, 0);
            Bench.isText("state behind " + statement, b.state(), state);
        }
        Bench.is("waits", b.store.rule(0, 5), 0);
        b.breaks(0, 2, "insert a (1)");
        b.does("begin", "commit");
        b.ends(7, "commit");
        b.does("begin", "back");
        b.ends(7, "back");
        Bench.is("waits", b.store.rule(0, 5), 0);
    }

    private static void inside() {
        Bench.sentence("in one table, trigger, drop, begin can't");
        Bench b = Bench.with("table a (x must)", "table c (x)", "trigger t before delete on a do raise 1", "begin", "insert a (1)");
        String state = b.state();
        for (String statement : new String[] {"table b (x default 1 must, unique (x) late, check x = 1)", "drop table a", "drop table c",
            "drop trigger t", "begin", "trigger s before insert on a when new.x = 1 do let x = 2"}) {
            b.ends(7, statement);
            Bench.is("no fault", b.store.told(0), CascadeStore.NONE);
            Bench.isText("state behind " + statement, b.state(), state);
        }
        b.does("back", "table b (x)", "insert b (default)", "drop trigger t", "drop table a");
        b.holds("b", "1: null");
    }

    private static void oneFaultThenNotNow() {
        Bench.sentence("(What can't be told apart in a text is looked at in the order 1, 7, then as it goes on.)");
        Bench b = Bench.with("table a (x, check x > 0)", "table b (x)", "trigger t before insert on b do delete a");
        b.fault(2, "mark ^");
        b.fault(4, "back to ^m");
        b.fault(5, "late ^0");
        b.fault(5, "now ^1");
        b.fault(2, "commit ^all");
        b.fault(2, "drop table a ^a");
        b.does("begin");
        b.fault(3, "table ^a (x)");
        b.fault(6, "table c (p, q, r, s, t, u, ^v)");
        b.fault(7, "table c (check 1 = 1^)");
        b.fault(4, "drop table ^c");
        b.fault(4, "drop trigger ^s");
        b.fault(3, "trigger ^t before insert on b do raise 1");
        b.fault(2, "begin ^begin");
        b.ends(7, "drop table a");
        b.does("commit");
        b.ends(7, "drop table a");
    }

    private static void nothingInIt() {
        Bench.sentence("TRANSACTIONS begin with begin: one without a change");
        Bench b = new Bench();
        b.does("begin", "late all", "now all", "commit");
        b.does("begin", "mark m", "back to m", "back");
        Bench.is("under way", b.store.count(5), 0);
        Bench.is("rows more", b.store.told(7), 0);
        b.does("table a (x)", "begin");
        Bench.is("under way", b.store.count(5), 1);
        Bench.is("marks", b.store.count(3), 0);
        b.does("commit");
        Bench.is("under way", b.store.count(5), 0);
    }

    private static Bench some() {
        return Bench.with("table a (x must, unique (x) late, check x > 0 late, check x < 9)", "begin");
    }

    private static void waits(Bench b, int... due) {
        for (int rule = 0; rule < due.length; rule++) {
            Bench.is("rule " + rule + " waits", b.store.rule(rule, 5), due[rule]);
        }
    }

    private static void whichRulesWait() {
        Bench.sentence("rules that MAY WAIT (late is told with them) wait from begin on");
        Bench b = some();
        waits(b, 0, 1, 1, 0);
        b.does("insert a (0)", "insert a (0)");
        b.breaks(0, 3, "insert a (null)");
        b.breaks(3, 3, "insert a (9)");
        b.does("delete a", "now all");
        waits(b, 0, 0, 0, 0);
        b.does("commit", "begin");
        waits(b, 0, 1, 1, 0);
    }

    private static void untilNowNamesThem() {
        Bench.sentence("until now names them, which looks at them at once");
        Bench b = some();
        b.does("insert a (0)", "now 1");
        waits(b, 0, 0, 1, 0);
        b.breaks(1, 2, "insert a (0)");
        b.does("insert a (- 1)");
        b.breaks(2, 1, "now 2");
        b.does("now 0, 3, 1");
        b.does("update a set x = x + 2", "now 2");
        waits(b, 0, 0, 0, 0);
        b.breaks(2, 1, "update a set x = x - 2");
        b.does("now 2", "now all");
    }

    private static void nowOfABrokenOne() {
        Bench.sentence("(one that is broken: told, and none of them is looked at from now on)");
        Bench b = some();
        b.does("insert a (0)");
        String state = b.state();
        b.breaks(2, 1, "now 1, 2");
        Bench.is("rows more", b.store.told(7), 0);
        b.breaks(2, 1, "now 2, 1");
        b.breaks(2, 1, "now all");
        Bench.isText("state behind now", b.state(), state);
        b.does("insert a (0)");
        b.breaks(1, 2, "now all");
        b.breaks(1, 2, "now 2, 1");
        b.breaks(2, 1, "now 0, 2, 3");
        waits(b, 0, 1, 1, 0);
        b.does("insert a (0)");
        b.holds("a", "1: 0, 2: 0, 3: 0");
    }

    private static void tillLateNamesThem() {
        Bench.sentence("till late names them");
        Bench b = some();
        b.does("now all", "late 2");
        waits(b, 0, 0, 1, 0);
        b.does("late 1");
        waits(b, 0, 1, 1, 0);
        b.does("late 1");
        waits(b, 0, 1, 1, 0);
        b.does("now 1", "late 2", "late all");
        waits(b, 0, 1, 1, 0);
        b.does("now 1, 2", "late 2, 1");
        waits(b, 0, 1, 1, 0);
        b.does("insert a (0)", "insert a (0)");
        b.breaks(3, 3, "insert a (9)");
    }

    private static void numbersTwice() {
        Bench.sentence("WHICH: all | NUMBER , ..");
        Bench b = some();
        b.does("now 1, 1, 1", "late 1, 2, 1, 2", "now 02, 000000001");
        waits(b, 0, 0, 0, 0);
        b.fault(2, "now all^, 0");
        b.fault(2, "late 1, ^all");
    }

    private static void marks() {
        Bench.sentence("mark NAME: a MARK, the latest one then");
        Bench b = Bench.with("table a (x)", "begin");
        for (int i = 0; i < 6; i++) {
            b.does("mark m" + i, "insert a (" + i + ")");
            Bench.is("marks", b.store.count(3), i + 1);
            Bench.is("mark m" + i, b.store.find(2, Bench.packed("m" + i)), i);
        }
        for (int i = 5; i >= 0; i--) {
            b.does("back to m" + i);
            Bench.is("rows at m" + i, b.store.table(0, 1), i);
            Bench.is("marks at m" + i, b.store.count(3), i + 1);
        }
    }

    private static void markOfTheSameName() {
        Bench.sentence("(also if there was one of that name, which is gone)");
        Bench b = Bench.with("table a (x)", "begin", "mark m", "insert a (1)", "mark n", "insert a (2)", "mark o", "insert a (3)", "mark m");
        Bench.is("marks", b.store.count(3), 3);
        Bench.is("n", b.store.find(2, 'n'), 0);
        Bench.is("o", b.store.find(2, 'o'), 1);
        Bench.is("m", b.store.find(2, 'm'), 2);
        b.does("delete a", "back to m");
        b.holds("a", "1: 1, 2: 2, 3: 3");
        b.does("mark m", "mark m");
        Bench.is("marks", b.store.count(3), 3);
        b.does("back to o");
        b.holds("a", "1: 1, 2: 2");
        b.fault(4, "back to ^m");
        b.does("mark n", "mark o", "insert a (9)", "back to n");
        b.holds("a", "1: 1, 2: 2");
        Bench.is("marks", b.store.count(3), 1);
    }

    private static void backTo() {
        Bench.sentence("back to NAME: all rows are as at that mark, those behind it are gone");
        Bench b = Bench.with("table a (x)", "table b (x)", "insert a (1)",
                "insert b (1)", "begin", "update a set x = 2", "mark m", "delete a", "insert b (5)", "mark n", "insert a (7)");
        b.does("back to m");
        Bench.is("rows more", b.store.told(7), -1);
        b.holds("a", "1: 2");
        b.holds("b", "1: 1");
        Bench.is("n is gone", b.store.find(2, 'n'), CascadeStore.NONE);
        Bench.is("m is there", b.store.find(2, 'm'), 0);
        Bench.is("under way", b.store.count(5), 1);
        b.does("back to m", "delete b", "back to m", "back to m");
        b.holds("b", "1: 1");
        b.does("commit");
        b.holds("a", "1: 2");
    }

    private static void rowIdsOfBackTo() {
        Bench.sentence("back to NAME: all rows are as at that mark (and the next ROWIDS)");
        Bench b = Bench.with("table a (x)", "insert a (1)", "begin", "mark m", "insert a (2)", "insert a (3)", "back to m", "insert a (4)");
        b.holds("a", "1: 1, 2: 4");
    }

    private static void whichWaitIsKeptByBackTo() {
        Bench.sentence("Which rules wait is not changed by back to");
        Bench b = some();
        b.does("mark m", "now 1", "back to m");
        waits(b, 0, 0, 1, 0);
        b.does("mark n", "late 1", "now 2", "back to n");
        waits(b, 0, 1, 0, 0);
        b.does("back to m");
        waits(b, 0, 1, 0, 0);
        b.does("late all", "insert a (0)", "mark o", "delete a", "now all", "back to o");
        waits(b, 0, 0, 0, 0);
        b.breaks(2, 1, "insert a (1)");
        b.does("update a set x = 1");
    }

    private static void backs() {
        Bench.sentence("back: all is as at begin, and it is over");
        Bench b = Bench.with("table a (x, unique (x) late)", "table b (x)", "insert a (1)", "insert b (1)");
        String state = b.state();
        b.does("begin", "insert a (1)", "delete b", "mark m", "insert b (2)", "insert b (3)", "mark n", "back");
        Bench.is("rows more", b.store.told(7), -2);
        Bench.isText("state behind back", b.state(), state);
        b.does("begin", "delete a", "delete b", "back");
        Bench.is("rows more", b.store.told(7), 2);
        Bench.isText("state behind back again", b.state(), state);
        b.does("insert b (4)");
        b.holds("b", "1: 1, 2: 4");
    }

    private static void commits() {
        Bench.sentence("commit: all rules are looked at; if none is broken it is over");
        Bench b = some();
        b.does("insert a (0)", "insert a (0)", "mark m", "update a set x = 1", "delete a", "insert a (5)", "commit");
        Bench.is("rows more", b.store.told(7), 0);
        Bench.is("under way", b.store.count(5), 0);
        Bench.is("marks", b.store.count(3), 0);
        waits(b, 0, 0, 0, 0);
        b.holds("a", "3: 5");
        b.does("begin", "back");
        b.holds("a", "3: 5");
    }

    private static void commitsOfBrokenRules() {
        Bench.sentence("otherwise as with back, and that is told");
        Bench b = Bench.with("table a (x, unique (x) late, check x > 0 late)", "insert a (1)", "insert a (2)");
        String state = b.state();
        b.does("begin", "insert a (- 1)", "mark m", "insert a (- 2)", "now 0");
        b.breaks(1, 3, "commit");
        Bench.is("rows more", b.store.told(7), -2);
        Bench.isText("state behind commit", b.state(), state);
        b.does("begin", "insert a (0)", "update a set x = 0");
        b.breaks(0, 2, "commit");
        Bench.isText("state behind commit again", b.state(), state);
        b.does("begin", "insert a (0)", "mark m", "delete a where x = 0", "now all", "back to m");
        b.breaks(1, 3, "commit");
        b.does("begin", "delete a", "insert a (0)");
        b.breaks(1, 3, "commit");
        Bench.is("rows more", b.store.told(7), 1);
        Bench.isText("state at the end", b.state(), state);
        b.ends(7, "commit");
    }

    private static void endsInside() {
        Bench.sentence("each statement is done wholly or not at all, with transactions around statements");
        Bench b = Bench.with("table a (x, check x # 3, unique (x) late)", "trigger t after insert on a when new.x = 4 do raise 4",
                "begin", "insert a (1)", "mark m", "insert a (1)", "now 0");
        String state = b.state();
        b.breaks(0, 3, "insert a (3)");
        b.raises(4, "insert a (4)");
        b.ends(4, "update a set x = x / (x - 1)");
        b.breaks(0, 1, "update a set x = 3");
        b.fault(4, "delete ^b");
        b.ends(7, "begin");
        Bench.isText("state behind them", b.state(), state);
        b.does("insert a (5)", "back to m");
        b.holds("a", "1: 1");
        b.does("commit");
        b.holds("a", "1: 1");
    }
}
