/** Section 3 CHANGES: the edges of insert, update and delete, of references, triggers and steps. */
final class EdgesOfChangesTest {
    public static void main(String[] args) {
        parts();
        withoutRows();
        openTests();
        leftovers();
        foundFirst();
        sumsBeforeSettings();
        insertedBetweenItsTriggers();
        goneAlready();
        lostMeanwhile();
        otherInNewThanInOld();
        nullInOld();
        stopAtOnce();
        referSoStill();
        byNumbers();
        updatedByARule();
        triggersByNumbers();
        whens();
        raises();
        newAndOldThen();
        threeHundredSteps();
        threeHundredStepsInside();
        twelveInOneAnother();
        twelveByReferences();
        fortyFirstRow();
        whatComesFirst();
        Bench.finish();
    }

    private static void parts() {
        Bench.sentence("default: the column's, NULL if none was told");
        Bench b = Bench.with("table a (p default 0, q default - 0, r default 999999999, s default - 999999999, t, u default 1 must)");
        b.does("insert a (default, default, default, default, default, default)");
        b.holds("a", "1: 0 0 999999999 -999999999 null 1");
        b.breaks(0, 2, "insert a (default, default, default, default, default, null)");
        Bench again = Bench.with("table a (x default 5)", "drop table a", "table a (x)", "insert a (default)");
        again.holds("a", "1: null");
    }

    private static void withoutRows() {
        Bench.sentence("UPDATE, DELETE: the rows for which the TEST is yes (all without one) .. of none");
        Bench b = Bench.with("table a (x)", "trigger t before update on a do raise 1", "trigger s before delete on a do raise 2",
                "update a set x = 1", "delete a", "update a set x = 1 / 0", "delete a where 1 / 0 = 1");
        b.steps(0, 0);
        Bench.is("rows more", b.store.told(7), 0);
        b.does("insert a (1)", "update a set x = 1 / 0 where x = 2", "delete a where x = 2");
        b.steps(0, 0);
        b.raises(1, "update a set x = 1");
        b.raises(2, "delete a");
    }

    private static void openTests() {
        Bench.sentence("the rows for which the TEST is yes: no and open are none");
        Bench b = Bench.with("table a (x)", "insert a (null)", "insert a (0)", "insert a (1)", "update a set x = 7 where x < 1");
        b.holds("a", "1: null, 2: 7, 3: 1");
        b.does("delete a where not x = 7");
        b.holds("a", "1: null, 2: 7");
        b.does("delete a where x = null", "delete a where not x = null", "delete a where null # null");
        b.holds("a", "1: null, 2: 7");
        b.does("delete a where x is null or x = null");
        b.holds("a", "2: 7");
    }

    /** A row that went is none of those that are looked at, whatever it held. */
    private static void leftovers() {
        Bench.sentence("the rows .. are found first: those that there are");
        Bench b = Bench.with("table a (x, unique (x))", "table b (x, refer (x) to a (x) delete cascade)", "insert a (1)", "insert a (0)",
                "delete a where x = 0", "update a set x = 1 / x", "delete a where 1 / x = 5", "insert b (1)", "delete b",
                "delete a");
        b.steps(1, 1);
        b.does("delete a where 1 / 0 = 1", "update a set x = 1 / 0");
        Bench.is("unique of none", b.store.broken(0), CascadeStore.NONE);
    }

    private static void foundFirst() {
        Bench.sentence("are found first; then one by one, by ROWIDS, those that are still there");
        Bench b = Bench.with("table a (x)", "table log (x)", "trigger t after delete on a do insert log (old.x)",
                "trigger s before delete on a when old.x = 3 do delete a where x = 1",
                "trigger r after delete on a when old.x = 3 do insert a (9)", "insert a (3)", "insert a (2)", "insert a (1)");
        b.does("delete a");
        b.holds("log", "1: 1, 2: 3, 3: 2");
        b.holds("a", "4: 9");
        b.steps(7, 3);
    }

    private static void sumsBeforeSettings() {
        Bench.sentence("(SUMS go by the row as it is then, all before the first is set)");
        Bench b = Bench.with("table a (x, y, z)", "insert a (1, 2, 3)", "insert a (10, 20, 30)",
                "update a set y = x + z, x = y, z = x - y");
        b.holds("a", "1: 2 4 -1, 2: 20 40 -10");
        b.does("trigger t after update on a when new.x = 0 do update a set z = z + 1000 where x > 5",
                "update a set x = x - 2, z = z + 1");
        b.holds("a", "1: 0 4 0, 2: 18 40 991");
        b.ends(4, "update a set x = 5, y = 1 / x");
        b.holds("a", "1: 0 4 0, 2: 18 40 991");
    }

    private static void insertedBetweenItsTriggers() {
        Bench.sentence("TO INSERT a row NEW: its before triggers; it gets its ROWID and is there; its after triggers");
        Bench b = Bench.with("table a (x)", "trigger t before insert on a when new.x = 1 do insert a (2)",
                "trigger s before insert on a when new.x = 1 do update a set x = x + 10",
                "trigger r after insert on a when new.x = 1 do update a set x = x + 100", "insert a (1)");
        b.holds("a", "1: 112, 2: 101");
        b.steps(5, 2);
    }

    private static void goneAlready() {
        Bench.sentence("before triggers; if it is not there any more that is all");
        Bench b = Bench.with("table a (id, unique (id))", "table b (up, refer (up) to a (id) delete cascade update cascade)",
                "table log (x)", "trigger t before update on a when new.id = 5 do delete a where id = old.id",
                "trigger s after update on a do insert log (1)", "trigger r after delete on a do insert log (2)",
                "insert a (1)", "insert b (1)", "update a set id = 5");
        b.holds("a", "");
        b.holds("b", "");
        b.holds("log", "1: 2");
        b.steps(4, 3);
        Bench d = Bench.with("table a (x)", "table log (x)", "trigger t before delete on a when old.x = 1 do update a set x = 2",
                "trigger s before delete on a when old.x = 1 do delete a where x = 2",
                "trigger r after delete on a do insert log (old.x)", "insert a (1)", "delete a");
        d.holds("a", "");
        d.holds("log", "1: 2");
        d.steps(4, 3);
    }

    private static void lostMeanwhile() {
        Bench.sentence("it becomes NEW (what else was changed of it meanwhile is lost)");
        Bench b = Bench.with("table a (x, y)", "trigger t before update on a when new.x = 5 do update a set x = 6, y = 7",
                "trigger s before update on a when new.x = 5 do let y = new.y + 1", "insert a (1, 2)", "update a set x = 5");
        b.holds("a", "1: 5 3");
        Bench r = Bench.with("table a (x)", "table log (o, n)", "trigger t before update on a when new.x = 5 do update a set x = 6",
                "trigger s after update on a do insert log (old.x, new.x)", "insert a (1)", "update a set x = 5");
        r.holds("log", "1: 1 6, 2: 1 5");
    }

    private static Bench family(String actions) {
        return Bench.with("table a (x, y, z, unique (x, y))", "table b (p default 1, q default 1, refer (p, q) to a (x, y) " + actions
                + ")", "insert a (1, 1, 0)", "insert a (1, 2, 0)", "insert b (1, 2)");
    }

    private static void otherInNewThanInOld() {
        Bench.sentence("if one of the columns referred to is other in NEW than in OLD");
        for (String action : new String[] {"stop", "cascade", "null", "default"}) {
            Bench b = family("update " + action);
            b.does("update a set z = 1, x = 1 where y = 2", "update a set x = x, y = y");
            b.steps(2, 1);
            b.holds("b", "1: 1 2");
        }
        family("update stop").breaks(1, 2, "update a set y = 3 where y = 2");
        family("update stop").breaks(1, 2, "update a set x = 0 where y = 2");
        family("update stop").does("update a set y = 3 where y = 1", "update a set x = null where y = 3");
        String[] actions = {"cascade", "null", "default"};
        String[] due = {"1: 1 3", "1: null null", "1: 1 1"};
        for (int i = 0; i < 3; i++) {
            Bench b = family("update " + actions[i]);
            b.does("update a set y = 3 where y = 2");
            b.holds("b", due[i]);
            b.steps(2, 2);
        }
        Bench swap = family("update cascade");
        swap.does("insert b (1, 1)", "update a set y = 3 - y");
        swap.holds("a", "1: 1 2 0, 2: 1 1 0");
        swap.holds("b", "1: 1 1, 2: 1 1");
    }

    private static void nullInOld() {
        Bench.sentence("and none of those was NULL in OLD");
        for (String action : new String[] {"stop", "cascade", "null", "default"}) {
            Bench b = family("delete " + action + " update " + action);
            b.does("insert a (7, null, 0)", "insert a (null, 7, 0)", "insert a (null, null, 0)", "insert b (7, null)", "insert b (null, 7)",
                    "insert b (null, null)", "update a set x = 8, y = 8 + z, z = 1 where x = 7", "update a set y = 9 where y = 7",
                    "delete a where x is null");
            b.holds("b", "1: 1 2, 2: 7 null, 3: null 7, 4: null null");
        }
    }

    private static void stopAtOnce() {
        Bench.sentence("stop: the rule is BROKEN (at once, also one that waits)");
        Bench b = Bench.with("table a (x, unique (x), check x > 0)", "table b (p, refer (p) to a (x) delete stop update stop late)",
                "trigger t after delete on a do raise 1", "insert a (1)", "insert b (1)", "begin");
        Bench.is("waits", b.store.rule(2, 5), 1);
        String state = b.state();
        b.breaks(2, 1, "delete a");
        b.steps(1, 1);
        b.breaks(2, 1, "update a set x = - 1");
        Bench.isText("state behind stops", b.state(), state);
        b.does("insert b (9)", "delete b where p = 1", "insert a (9)");
        b.breaks(2, 2, "delete a where x = 9");
        b.raises(1, "delete a where x = 1");
    }

    private static void referSoStill() {
        Bench.sentence("by ROWIDS, as long as they are there and refer so still");
        Bench b = Bench.with("table a (x, unique (x))", "table b (p, v, refer (p) to a (x) delete cascade)",
                "trigger t after delete on b when old.v = 1 do update b set p = null where v = 2",
                "trigger s after delete on b when old.v = 1 do delete b where v = 3",
                "insert a (1)", "insert b (1, 1)", "insert b (1, 2)", "insert b (1, 3)", "insert b (1, 4)", "delete a");
        b.holds("b", "2: null 2");
        b.steps(5, 3);
        Bench stop = Bench.with("table a (x, unique (x))", "table b (p, v, refer (p) to a (x) delete null)",
                "table c (p, refer (p) to a (x) delete stop)", "trigger t after update on b do delete c",
                "insert a (1)", "insert b (1, 1)", "insert c (1)", "delete a");
        stop.holds("c", "");
        stop.holds("b", "1: null 1");
    }

    private static void byNumbers() {
        Bench.sentence("each rule of refer to its table, by numbers");
        Bench b = Bench.with("table z (x must)", "table a (x, unique (x))", "table c (p, refer (p) to a (x) delete stop)", "drop table z",
                "table b (p, refer (p) to a (x) delete cascade)", "insert a (1)", "insert b (1)", "insert c (1)");
        Bench.is("the first rule's table", b.store.rule(0, 1), b.store.find(0, 'b'));
        b.breaks(2, 1, "delete a");
        b.steps(2, 2);
        b.does("trigger t after delete on b do delete c", "delete a");
        b.holds("c", "");
        b.holds("b", "");
        b.does("insert a (1)", "insert b (1)", "delete b", "insert b (1)", "drop trigger t", "delete a");
        b.steps(2, 2);
    }

    private static void updatedByARule() {
        Bench.sentence("(A row that is updated by a rule goes through all of this.)");
        Bench b = Bench.with("table a (x, unique (x))", "table b (p, unique (p), refer (p) to a (x) update cascade)",
                "table c (q, refer (q) to b (p) update cascade)", "table log (o, n)",
                "trigger t before update on b do let p = new.p + 1", "trigger s after update on c do insert log (old.q, new.q)",
                "insert a (1)", "insert b (1)", "insert c (1)", "insert a (6)");
        b.does("update a set x = 5 where x = 1");
        b.holds("b", "1: 6");
        b.holds("c", "1: 6");
        b.holds("log", "1: 1 6");
        b.steps(4, 4);
    }

    private static void triggersByNumbers() {
        Bench.sentence("TRIGGERS of one TIME and EVENT of a table are done by their numbers");
        Bench b = Bench.with("table a (x)", "table log (x)");
        for (int i = 0; i < 8; i++) {
            b.does("trigger t" + i + " after insert on a do insert log (" + i + ")");
        }
        b.does("drop trigger t3", "drop trigger t0", "trigger u0 after insert on a do insert log (10)",
                "trigger u3 before insert on a do insert log (13)", "insert a (1)");
        b.holds("log", "1: 13, 2: 10, 3: 1, 4: 2, 5: 4, 6: 5, 7: 6, 8: 7");
        b.does("delete log", "update a set x = 2", "delete a");
        b.holds("log", "");
    }

    private static void whens() {
        Bench.sentence("if their TEST is yes (or there is none)");
        Bench b = Bench.with("table a (x)", "table log (x)", "trigger t after insert on a when new.x > 0 do insert log (1)",
                "trigger s after insert on a when not new.x > 0 do insert log (2)", "trigger r after insert on a do insert log (3)",
                "insert a (0)", "insert a (1)", "insert a (null)");
        b.holds("log", "1: 2, 2: 3, 3: 1, 4: 3, 5: 3");
    }

    private static void raises() {
        Bench.sentence("raise: the statement ends with it");
        Bench b = Bench.with("table a (x)", "table log (x)", "trigger t after insert on a do insert log (1)",
                "trigger s after insert on a when new.x = 0 do raise 0", "trigger r after insert on a do insert log (2)");
        b.raises(0, "insert a (0)");
        b.steps(2, 2);
        b.holds("a", "");
        b.holds("log", "");
        Bench.is("the next ROWID", b.store.table(0, 2), 1);
        Bench.is("the next ROWID of the log", b.store.table(1, 2), 1);
        b.does("insert a (1)");
        Bench.is("nothing raised", b.store.told(4), CascadeStore.NONE);
        b.holds("log", "1: 1, 2: 2");
    }

    private static void newAndOldThen() {
        Bench.sentence("New in an after trigger, old: as the row was, or was to be, then");
        Bench b = Bench.with("table a (x)", "table log (o, n)", "trigger t after update on a when new.x < 3 do update a set x = x + 1",
                "trigger s after update on a do insert log (old.x, new.x)", "insert a (0)", "update a set x = 1");
        b.holds("a", "1: 3");
        b.holds("log", "1: 2 3, 2: 1 2, 3: 0 1");
        Bench d = Bench.with("table a (x)", "table log (x)", "trigger t after insert on a do delete a",
                "trigger s after insert on a do insert log (new.x)", "trigger r after delete on a do insert log (old.x + 10)",
                "insert a (1)");
        d.holds("log", "1: 11, 2: 1");
    }

    private static void threeHundredSteps() {
        Bench.sentence("The statement ends with TOO MUCH when a 301st step would begin");
        Bench b = Bench.with("table a (x)", "table b (x)");
        for (int i = 0; i < 20; i++) {
            b.does("insert a (0)", "insert b (0)");
        }
        b.does("delete b where 0 = 0", "insert b (0)");
        for (int i = 0; i < 13; i++) {
            b.does("insert b (0)");
        }
        b.does("trigger t after update on a do update b set x = x + 1", "update a set x = 1");
        b.steps(300, 2);
        Bench.is("what the trigger set", b.store.value(1, 13, 0), 20);
        b.does("insert a (0)");
        String state = b.state();
        b.ends(5, "update a set x = 2");
        b.steps(300, 2);
        Bench.is("rows more", b.store.told(7), 0);
        for (int what = 0; what <= 4; what++) {
            Bench.is("told(" + what + ")", b.store.told(what), CascadeStore.NONE);
        }
        Bench.isText("state behind too much", b.state(), state);
        b.does("update a set x = 2 where x = 1");
        b.steps(300, 2);
    }

    private static void threeHundredStepsInside() {
        Bench.sentence("when a 301st step would begin: also one that lies in others");
        Bench b = Bench.with("table a (x)", "table b (x)");
        for (int i = 0; i < 17; i++) {
            b.does("insert a (0)", "insert b (0)");
        }
        b.does("trigger t before update on a do update b set x = x + 1");
        String state = b.state();
        b.ends(5, "update a set x = 1");
        b.steps(300, 2);
        Bench.isText("state behind too much", b.state(), state);
        b.does("delete b where x = 0", "update a set x = 1");
        b.steps(17, 1);
    }

    private static void twelveInOneAnother() {
        Bench.sentence("TOO MUCH when .. or one in twelve others");
        Bench b = Bench.with("table a (x)", "trigger t before insert on a when new.x > 1 do insert a (new.x - 1)", "insert a (12)");
        b.steps(12, 12);
        Bench.is("the innermost is there first", b.store.value(0, 0, 0), 1);
        b.ends(5, "insert a (13)");
        b.steps(12, 12);
        b.ends(5, "insert a (999999999)");
        b.steps(12, 12);
        Bench.is("rows", b.store.table(0, 1), 12);
        Bench.is("the next ROWID", b.store.table(0, 2), 13);
        Bench u = Bench.with("table a (x)", "insert a (0)", "trigger t after update on a when new.x < 12 do update a set x = x + 1",
                "update a set x = 1");
        u.steps(12, 12);
        u.ends(5, "update a set x = 0");
        u.steps(12, 12);
        u.holds("a", "1: 12");
        Bench last = Bench.with("table a (x)", "table b (x)", "trigger t after insert on a when new.x > 1 do insert a (new.x - 1)",
                "trigger s after insert on a when new.x = 1 do delete b", "insert a (12)");
        last.steps(12, 12);
        last.does("insert b (1)");
        last.ends(5, "insert a (12)");
        last.does("insert a (11)");
        last.steps(12, 12);
    }

    private static void twelveByReferences() {
        Bench.sentence("TOO MUCH when .. or one in twelve others: of references too");
        Bench b = Bench.with("table a (id, up, unique (id), refer (up) to a (id) delete cascade)", "insert a (1, null)");
        for (int i = 2; i <= 13; i++) {
            b.does("insert a (" + i + ", " + (i - 1) + ")");
        }
        b.ends(5, "delete a where id = 1");
        b.steps(12, 12);
        Bench.is("rows", b.store.table(0, 1), 13);
        b.does("update a set up = null where id = 13", "delete a where id = 1");
        b.steps(12, 12);
        b.holds("a", "13: 13 null");
    }

    private static void fortyFirstRow() {
        Bench.sentence("with NO ROOM when a 41st row would be there");
        Bench b = Bench.with("table a (x)");
        for (int i = 1; i <= 39; i++) {
            b.does("insert a (" + i + ")");
        }
        b.does("trigger t before insert on a when new.x = 1 do insert a (2)", "trigger s after insert on a when new.x = 3 do insert a (4)",
                "trigger r before insert on a when new.x = 5 do delete a where x = 1",
                "trigger q after insert on a when new.x = 6 do delete a where x = 6");
        String state = b.state();
        b.ends(6, "insert a (1)");
        b.steps(2, 2);
        b.ends(6, "insert a (3)");
        b.steps(2, 2);
        Bench.is("rows more", b.store.told(7), 0);
        Bench.isText("state behind no room", b.state(), state);
        b.does("insert a (40)");
        b.ends(6, "insert a (41)");
        b.ends(6, "insert a (6)");
        b.does("insert a (5)");
        Bench.is("rows", b.store.table(0, 1), 40);
        Bench.is("the next ROWID", b.store.table(0, 2), 42);
    }

    private static void whatComesFirst() {
        Bench.sentence("(.. then as it goes on.)");
        Bench b = Bench.with("table a (x, check x # 2)");
        for (int i = 0; i < 40; i++) {
            b.does("insert a (0)");
        }
        b.ends(6, "insert a (2)");
        b.ends(4, "insert a (1 / 0)");
        b.does("trigger t before insert on a when 1 / new.x > 0 do raise 9");
        b.ends(4, "insert a (0)");
        b.raises(9, "insert a (1)");
        b.ends(6, "insert a (- 1)");
        b.ends(4, "update a set x = 2 + 1 / x");
        b.breaks(0, 1, "update a set x = 2");
        Bench deep = Bench.with("table a (x)", "trigger t before insert on a when new.x > 0 do insert a (new.x - 1 / (new.x - 1))");
        deep.ends(4, "insert a (1)");
        deep.steps(1, 1);
        Bench thirteen = Bench.with("table a (x)", "trigger t before insert on a do insert a (new.x - 1 + 0 / (new.x - 1))");
        thirteen.ends(4, "insert a (12)");
        thirteen.steps(12, 12);
        thirteen.ends(5, "insert a (13)");
    }
}
