/** Promise 3: what rules of refer do when a row goes or changes (section 3). */
final class ReferencesTest {
    public static void main(String[] args) {
        stops();
        cascades();
        nulls();
        defaults();
        nothing();
        partlyNull();
        severalRules();
        toItself();
        chains();
        touchedColumnsAlone();
        whatChangedMeanwhile();
        fullTable();
        Bench.finish();
    }

    private static Bench family(String actions) {
        return Bench.with("table a (id, v, primary (id))",
                "table b (up default 9, v, refer (up) to a (id) " + actions + ")",
                "insert a (1, 0)", "insert a (2, 0)", "insert a (9, 0)",
                "insert b (1, 10)", "insert b (2, 20)", "insert b (1, 30)", "insert b (null, 40)");
    }

    private static void stops() {
        Bench b = family("delete stop update stop");
        String state = b.state();
        b.breaks(1, 1, "delete a where id = 1");
        b.steps(1, 1);
        b.breaks(1, 2, "update a set id = 5 where id = 2");
        b.breaks(1, 1, "delete a");
        Bench.isText("state after stops", b.state(), state);
        b.does("delete a where id = 9", "update a set v = 7", "update a set id = id");
        b.does("delete b where up = 2", "update a set id = 5 where id = 2");
        b.holds("a", "1: 1 7, 2: 5 7");

        Bench late = family("delete stop update stop late");
        late.does("begin");
        late.breaks(1, 1, "delete a where id = 1");
        late.breaks(1, 2, "update a set id = 3 where id = 2");
    }

    private static void cascades() {
        Bench b = family("delete cascade update cascade");
        b.does("update a set id = id + 100");
        b.holds("b", "1: 101 10, 2: 102 20, 3: 101 30, 4: null 40");
        b.steps(6, 2);
        b.does("delete a where id = 101");
        b.holds("b", "2: 102 20, 4: null 40");
        b.steps(3, 2);
        Bench.is("rows more", b.store.told(7), -3);
    }

    private static void nulls() {
        Bench b = family("delete null update null");
        b.does("update a set id = 3 where id = 1");
        b.holds("b", "1: null 10, 2: 2 20, 3: null 30, 4: null 40");
        b.does("delete a where id = 2");
        b.holds("b", "1: null 10, 2: null 20, 3: null 30, 4: null 40");
        b.steps(2, 2);
    }

    private static void defaults() {
        Bench b = family("delete default update default");
        b.does("delete a where id = 1");
        b.holds("b", "1: 9 10, 2: 2 20, 3: 9 30, 4: null 40");
        b.does("update a set id = 5 where id = 2");
        b.holds("b", "1: 9 10, 2: 9 20, 3: 9 30, 4: null 40");
        b.breaks(1, 1, "delete a where id = 9");
        b.steps(4, 2);
    }

    private static void nothing() {
        Bench b = family("");
        b.breaks(1, 1, "delete a where id = 1");
        b.steps(1, 1);
        b.breaks(1, 2, "update a set id = 3 where id = 2");
        b.does("delete a where id = 9");

        Bench onDelete = family("delete cascade");
        onDelete.breaks(1, 1, "update a set id = 3 where id = 1");
        onDelete.does("delete a where id = 1");
        Bench onUpdate = family("update cascade");
        onUpdate.breaks(1, 1, "delete a where id = 1");
        onUpdate.does("update a set id = 3 where id = 1");
    }

    private static void partlyNull() {
        Bench b = Bench.with("table a (x, y, unique (x, y))", "table b (p, q, refer (p, q) to a (x, y) delete cascade "
                + "update cascade)", "insert a (1, null)", "insert a (1, 2)", "insert b (1, null)", "insert b (1, 2)");
        b.does("delete a where y is null");
        b.holds("b", "1: 1 null, 2: 1 2");
        b.does("insert a (3, null)", "insert b (3, null)", "update a set y = 4 where x = 3");
        b.holds("b", "1: 1 null, 2: 1 2, 3: 3 null");
        b.does("update a set y = null where y = 2");
        b.holds("b", "1: 1 null, 2: 1 null, 3: 3 null");
        b.breaks(1, 4, "insert b (1, 2)");
    }

    private static void severalRules() {
        Bench b = Bench.with("table a (id, primary (id))",
                "table b (up, refer (up) to a (id) delete cascade)",
                "table c (up, refer (up) to a (id) delete stop)",
                "insert a (1)", "insert b (1)", "insert c (1)");
        b.breaks(2, 1, "delete a");
        b.steps(2, 2);
        b.holds("b", "1: 1");
        b.does("delete c", "delete a");
        b.holds("b", "");

        Bench two = Bench.with("table a (id, primary (id))",
                "table b (x, y, refer (x) to a (id) delete null, refer (y) to a (id) delete cascade)",
                "insert a (1)", "insert b (1, 1)", "insert b (1, null)");
        two.does("delete a");
        two.holds("b", "2: null null");
        two.steps(4, 2);
    }

    private static void toItself() {
        Bench b = Bench.with("table a (id, up, primary (id), refer (up) to a (id) delete cascade update cascade)",
                "insert a (1, 1)", "insert a (2, 1)", "insert a (3, 2)");
        b.does("update a set id = 5 where id = 1");
        b.holds("a", "1: 5 5, 2: 2 5, 3: 3 2");
        b.steps(3, 2);
        b.does("update a set id = id + 10");
        b.holds("a", "1: 15 15, 2: 12 15, 3: 13 12");
        b.does("delete a where id = 15");
        b.holds("a", "");
        b.steps(3, 3);
        b.does("insert a (1, 1)", "insert a (2, 1)", "delete a where id > 0");
        b.steps(2, 2);
        b.does("insert a (1, 1)", "insert a (2, 2)", "update a set id = id + 1 where id = 1 or id = 2");
        b.breaks(0, 7, "update a set id = 3");
        b.holds("a", "6: 2 3, 7: 3 3");

        Bench stop = Bench.with("table a (id, up, primary (id), refer (up) to a (id) delete stop update stop)",
                "insert a (1, 1)");
        stop.breaks(1, 1, "update a set id = 2");
        stop.does("update a set id = 2, up = 2", "delete a");
    }

    private static void chains() {
        Bench b = Bench.with("table a (id, up, unique (id), refer (up) to a (id) delete cascade)",
                "insert a (1, null)");
        for (int i = 2; i <= 12; i++) {
            b.does("insert a (" + i + ", " + (i - 1) + ")");
        }
        b.does("begin", "delete a where id = 1");
        b.steps(12, 12);
        Bench.is("rows more", b.store.told(7), -12);
        b.does("back");
        b.does("insert a (13, 12)");
        String state = b.state();
        b.ends(5, "delete a where id = 1");
        b.steps(12, 12);
        Bench.isText("state after too much", b.state(), state);
        b.does("delete a where id = 2");
        b.steps(12, 12);
    }

    private static void touchedColumnsAlone() {
        Bench b = Bench.with("table a (x, y, z, unique (x, y), unique (y))",
                "table b (p, q, refer (p, q) to a (x, y) update cascade)",
                "table c (q, refer (q) to a (y) update null)",
                "insert a (1, 2, 3)", "insert b (1, 2)", "insert c (2)");
        b.does("update a set z = 4, x = 1, y = 2");
        b.steps(1, 1);
        b.does("update a set x = 7");
        b.holds("b", "1: 7 2");
        b.holds("c", "1: 2");
        b.does("update a set y = 8");
        b.holds("b", "1: 7 8");
        b.holds("c", "1: null");
    }

    private static void fullTable() {
        Bench b = Bench.with("table a (id, unique (id))", "table b (up, refer (up) to a (id) delete cascade update cascade)",
                "insert a (1)");
        for (int i = 0; i < 40; i++) {
            b.does("insert b (1)");
        }
        b.does("update a set id = 2");
        b.steps(41, 2);
        Bench.is("the last one's value", b.store.value(1, 39, 0), 2);
        b.does("delete a");
        b.steps(41, 2);
        Bench.is("rows more", b.store.told(7), -41);
    }

    private static void whatChangedMeanwhile() {
        Bench b = Bench.with("table a (id, primary (id))",
                "table b (up, v, refer (up) to a (id) delete null)",
                "trigger t after update on b do update b set up = 7 where up = old.up",
                "insert a (1)", "insert a (7)", "insert b (1, 10)", "insert b (1, 20)");
        b.does("delete a where id = 1");
        b.holds("b", "1: null 10, 2: 7 20");
        b.steps(3, 3);

        Bench gone = Bench.with("table a (id, primary (id))",
                "table b (up, v, refer (up) to a (id) update cascade)",
                "trigger t before update on b when old.v = 10 do delete b where v = 20",
                "insert a (1)", "insert b (1, 10)", "insert b (1, 20)", "insert b (1, 30)");
        gone.does("update a set id = 2");
        gone.holds("b", "1: 2 10, 3: 2 30");
        gone.steps(4, 3);
    }
}
