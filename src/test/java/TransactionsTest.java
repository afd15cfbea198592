/** Promise 3: transactions, marks and rules that wait (section 5), and what can't be done now. */
final class TransactionsTest {
    public static void main(String[] args) {
        notNow();
        faultsComeFirst();
        drops();
        backs();
        commits();
        brokenCommits();
        marks();
        marksAgain();
        waits();
        nows();
        nowOfBroken();
        lates();
        backToAndWaits();
        Bench.finish();
    }

    private static void notNow() {
        Bench b = Bench.with("table a (x, unique (x) late)");
        for (String statement : new String[] {"commit", "back", "mark m", "late all", "now all", "late 0", "now 0"}) {
            b.ends(7, statement);
            Bench.is("no fault", b.store.told(0), CascadeStore.NONE);
        }
        Bench.is("under way", b.store.count(5), 0);
        b.does("begin");
        String state = b.state();
        for (String statement : new String[] {"begin", "table b (x must, check x = 1)", "drop table a", "drop trigger t",
            "trigger t before insert on a do raise 1"}) {
            b.ends(statement.equals("drop trigger t") ? 1 : 7, statement);
            Bench.isText("state after " + statement, b.state(), state);
        }
        b.does("back");
        b.does("table b (x)");
    }

    private static void faultsComeFirst() {
        Bench b = Bench.with("table a (x)");
        b.fault(4, "back to ^m");
        b.fault(5, "late ^0");
        b.fault(2, "mark ^");
        b.does("begin");
        b.fault(3, "table ^a (x)");
        b.fault(4, "drop table ^b");
        b.fault(2, "begin ^1");
        b.fault(7, "trigger t after insert on a do ^let x = 1");
    }

    private static void drops() {
        Bench b = Bench.with("table a (x, unique (x))", "table b (y, refer (y) to a (x))", "table c (z)",
                "trigger t after insert on c do delete b", "trigger s after insert on c do insert c (1)",
                "table d (w, unique (w), refer (w) to d (w))");
        b.ends(7, "drop table a");
        b.ends(7, "drop table b");
        Bench.is("tables", b.store.count(0), 4);
        b.does("drop table d");
        b.does("drop trigger t");
        b.does("insert b (null)", "drop table b");
        Bench.is("rows more", b.store.told(7), -1);
        b.does("drop table a", "drop table c");
        Bench.is("tables", b.store.count(0), 0);
        Bench.is("rules", b.store.count(1), 0);
        Bench.is("triggers", b.store.count(2), 0);
        b.does("table e (x)", "insert e (1)", "insert e (2)", "drop table e", "table f (x)");
        Bench.is("the first ROWID of a new table", b.store.table(0, 2), 1);
        b.does("trigger u after insert on f do raise 1");
        b.fault(4, "drop trigger ^s");
        b.does("drop trigger u");
        b.does("insert f (1)");
    }

    private static void backs() {
        Bench b = Bench.with("table a (x)", "insert a (1)", "begin", "insert a (2)", "delete a where x = 1", "mark m");
        b.does("back");
        Bench.is("rows more", b.store.told(7), 0);
        b.holds("a", "1: 1");
        Bench.is("the next ROWID", b.store.table(0, 2), 2);
        Bench.is("under way", b.store.count(5), 0);
        Bench.is("marks", b.store.count(3), 0);
        b.does("begin", "insert a (3)", "insert a (4)", "back");
        Bench.is("rows more", b.store.told(7), -2);
    }

    private static void commits() {
        Bench b = Bench.with("table a (x)", "begin", "insert a (1)", "mark m", "commit");
        b.holds("a", "1: 1");
        Bench.is("marks", b.store.count(3), 0);
        Bench.is("under way", b.store.count(5), 0);
        b.ends(7, "back");
        b.does("begin");
        b.fault(4, "back to ^m");
        b.does("back");
        b.holds("a", "1: 1");
    }

    private static void brokenCommits() {
        Bench b = Bench.with("table a (x, unique (x), check x > 0 late, unique (x) late)", "insert a (5)", "begin");
        b.does("insert a (6)", "insert a (-1)", "mark m");
        b.breaks(1, 3, "commit");
        Bench.is("rows more", b.store.told(7), -2);
        b.holds("a", "1: 5");
        Bench.is("the next ROWID", b.store.table(0, 2), 2);
        Bench.is("under way", b.store.count(5), 0);
        Bench.is("marks", b.store.count(3), 0);
        Bench.is("waits", b.store.rule(1, 5), 0);
        b.breaks(1, 2, "insert a (-1)");
    }

    private static void marks() {
        Bench b = Bench.with("table a (x)", "begin", "insert a (1)", "mark one", "insert a (2)", "mark two",
                "delete a", "mark three");
        Bench.is("marks", b.store.count(3), 3);
        b.does("back to two");
        Bench.is("rows more", b.store.told(7), 2);
        b.holds("a", "1: 1, 2: 2");
        Bench.is("marks", b.store.count(3), 2);
        b.fault(4, "back to ^three");
        b.does("insert a (3)", "back to one");
        b.holds("a", "1: 1");
        Bench.is("the next ROWID", b.store.table(0, 2), 2);
        b.does("insert a (4)", "back to one", "back to one");
        b.holds("a", "1: 1");
        b.does("commit");
        b.holds("a", "1: 1");
    }

    private static void marksAgain() {
        Bench b = Bench.with("table a (x)", "begin", "mark m", "insert a (1)", "mark n", "insert a (2)", "mark m");
        Bench.is("marks", b.store.count(3), 2);
        Bench.is("the first", b.store.find(2, 'n'), 0);
        Bench.is("the latest", b.store.find(2, 'm'), 1);
        b.does("insert a (3)", "back to m");
        b.holds("a", "1: 1, 2: 2");
        b.does("back to n");
        b.holds("a", "1: 1");
        Bench.is("the latest is gone", b.store.find(2, 'm'), CascadeStore.NONE);
        b.does("mark n", "mark n");
        Bench.is("marks", b.store.count(3), 1);
        b.does("mark a", "mark b", "mark c", "mark d", "mark e", "insert a (7)", "mark a", "delete a", "back to e");
        b.holds("a", "1: 1");
        b.does("mark f", "back to f");
        Bench.is("marks", b.store.count(3), 6);
    }

    private static void waits() {
        Bench b = Bench.with("table a (x must, unique (x) late, check x > 0 late)", "begin", "insert a (0)", "insert a (0)");
        b.breaks(0, 3, "insert a (null)");
        b.breaks(1, 2, "commit");
        b.breaks(2, 1, "insert a (0)");
        b.does("begin", "insert a (0)", "update a set x = 1", "commit");
        b.holds("a", "1: 1");
    }

    private static void nows() {
        Bench b = Bench.with("table a (x must, unique (x) late, check x > 0 late)", "begin", "insert a (1)");
        b.does("now 2");
        Bench.is("waits", b.store.rule(1, 5), 1);
        Bench.is("waits no more", b.store.rule(2, 5), 0);
        b.breaks(2, 2, "insert a (0)");
        b.does("insert a (1)");
        b.breaks(1, 2, "now 0, 1");
        b.breaks(1, 2, "now all");
        b.does("update a set x = 2 where x = 1", "delete a", "insert a (1)", "now all");
        b.breaks(1, 4, "insert a (1)");
        b.does("back", "begin");
        Bench.is("waits again", b.store.rule(2, 5), 1);
    }

    private static void nowOfBroken() {
        Bench b = Bench.with("table a (x, unique (x) late, check x > 0 late)", "begin", "insert a (-1)");
        b.breaks(1, 1, "now 1, 0");
        Bench.is("rows more", b.store.told(7), 0);
        Bench.is("the first waits still", b.store.rule(0, 5), 1);
        Bench.is("the second waits still", b.store.rule(1, 5), 1);
        Bench.is("under way", b.store.count(5), 1);
        b.does("insert a (-1)");
        b.breaks(0, 2, "now 1, 0");
        b.does("update a set x = 1 where x < 0", "now 1");
        b.breaks(0, 2, "now 0");
    }

    private static void lates() {
        Bench b = Bench.with("table a (x must, unique (x) late, check x > 0 late)", "begin", "now all", "late 2");
        Bench.is("waits not", b.store.rule(1, 5), 0);
        Bench.is("waits", b.store.rule(2, 5), 1);
        b.does("insert a (0)");
        b.breaks(1, 2, "insert a (0)");
        b.does("late all");
        Bench.is("may not wait", b.store.rule(0, 5), 0);
        b.breaks(0, 2, "insert a (null)");
        b.does("insert a (0)");
    }

    private static void backToAndWaits() {
        Bench b = Bench.with("table a (x, check x > 0 late)", "begin", "insert a (0)", "mark m", "delete a", "now 0");
        b.does("back to m");
        Bench.is("waits not", b.store.rule(0, 5), 0);
        Bench.is("broken", b.store.broken(0), 1);
        b.breaks(0, 1, "insert a (1)");
        b.breaks(0, 1, "now all");
        b.does("late 0", "insert a (1)");
        b.breaks(0, 1, "commit");
        b.holds("a", "");
    }
}
