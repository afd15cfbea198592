/** Promise 3: triggers and steps (section 3). */
final class TriggersTest {
    public static void main(String[] args) {
        lets();
        order();
        whens();
        raises();
        changes();
        newAndOld();
        goneBefore();
        lostMeanwhile();
        foundFirst();
        tooDeep();
        tooMany();
        room();
        Bench.finish();
    }

    private static void lets() {
        Bench b = Bench.with("table a (x, y)", "trigger t before insert on a do let y = new.x * 2 + new.y",
                "trigger s before update on a do let x = old.x + new.x");
        b.does("insert a (3, 1)");
        b.holds("a", "1: 3 7");
        b.does("update a set x = 10");
        b.holds("a", "1: 13 7");
        b.ends(0, "insert a (null, 5)");
        b.holds("a", "1: 13 7, 2: null null");
        b.does("drop trigger t", "trigger t before insert on a do let y = 1 / new.x");
        b.ends(4, "insert a (0, 0)");
        b.steps(1, 1);
        Bench.is("rows", b.store.table(0, 1), 2);
    }

    private static void order() {
        Bench b = Bench.with("table a (x)", "trigger t before insert on a do let x = new.x * 2",
                "trigger s before insert on a do let x = new.x + 1", "insert a (5)");
        b.holds("a", "1: 11");
        b.does("drop trigger t", "trigger r before insert on a when new.x = 5 do let x = 50", "insert a (5)");
        b.holds("a", "1: 11, 2: 51");

        Bench told = Bench.with("table a (x)", "table b (y)",
                "trigger t after insert on a do insert b (2)",
                "trigger s before insert on a do insert b (1)",
                "trigger r after insert on a do insert b (3)", "insert a (0)");
        told.holds("b", "1: 1, 2: 2, 3: 3");
        told.steps(4, 2);
    }

    private static void whens() {
        Bench b = Bench.with("table a (x)", "table b (y)",
                "trigger t after insert on a when new.x > 2 do insert b (new.x)");
        b.does("insert a (1)", "insert a (3)", "insert a (null)");
        b.holds("b", "1: 3");
        b.does("trigger s after delete on a when 1 / old.x = 1 do raise 1", "insert a (0)");
        b.ends(4, "delete a where x = 0");
        b.raises(1, "delete a where x = 1");
        b.does("delete a where x = 3 or x is null");
    }

    private static void raises() {
        Bench b = Bench.with("table a (x)", "trigger t before insert on a when new.x < 0 do raise 77",
                "trigger s after update on a do raise 0", "trigger r after delete on a when old.x = 3 do raise 999999999",
                "insert a (1)", "insert a (2)", "insert a (3)");
        String state = b.state();
        b.raises(77, "insert a (-1)");
        b.steps(1, 1);
        b.raises(0, "update a set x = 4");
        b.raises(999999999, "delete a");
        b.steps(3, 1);
        Bench.is("rows more", b.store.told(7), 0);
        Bench.is("the rule", b.store.told(2), CascadeStore.NONE);
        Bench.isText("state after raises", b.state(), state);
        b.does("delete a where x # 3");
        Bench.is("nothing raised", b.store.told(4), CascadeStore.NONE);
    }

    private static void changes() {
        Bench b = Bench.with("table a (x, y)", "table log (x, y)",
                "trigger t after update on a do insert log (old.x, new.x)",
                "trigger s after delete on a do delete log where x = old.x or y = old.x",
                "trigger r after insert on a do update log set y = y + new.x, x = y where y # new.y");
        b.does("insert a (1, 0)", "insert a (2, 0)", "update a set x = x + 10");
        b.holds("log", "1: 1 11, 2: 2 12");
        b.does("insert a (5, 12)");
        b.holds("log", "1: 11 16, 2: 2 12");
        b.does("delete a where x = 11 or x = 12");
        b.holds("log", "");
        b.steps(4, 2);
        Bench.is("rows more", b.store.told(7), -4);
    }

    private static void newAndOld() {
        Bench b = Bench.with("table a (x)", "table log (o, n)",
                "trigger t before update on a do insert log (old.x, new.x)",
                "trigger s before update on a do let x = new.x + 1",
                "trigger r before update on a do insert log (old.x, new.x)",
                "trigger q after update on a do insert log (old.x, new.x)",
                "insert a (1)", "update a set x = 5");
        b.holds("log", "1: 1 5, 2: 1 6, 3: 1 6");
        b.holds("a", "1: 6");
    }

    private static void goneBefore() {
        Bench b = Bench.with("table a (x)", "table log (x)",
                "trigger t before update on a do delete a where x = old.x",
                "trigger s after update on a do insert log (1)",
                "trigger r after delete on a do insert log (2)",
                "insert a (1)", "insert a (2)");
        b.does("update a set x = 9");
        b.holds("a", "");
        b.holds("log", "1: 2, 2: 2");
        b.steps(6, 3);

        Bench twice = Bench.with("table a (x)", "table log (x)",
                "trigger t before delete on a when old.x > 0 do delete a where x = old.x - 1",
                "trigger s after delete on a do insert log (old.x)",
                "insert a (2)", "insert a (1)", "insert a (0)");
        twice.does("delete a");
        twice.holds("log", "1: 0, 2: 1, 3: 2");
        twice.steps(6, 4);
    }

    private static void lostMeanwhile() {
        Bench b = Bench.with("table a (x, y)",
                "trigger t before update on a when new.x = 5 do update a set y = 100, x = 6",
                "insert a (1, 2)", "insert a (3, 4)");
        b.does("update a set x = 5 where x = 1");
        b.holds("a", "1: 5 2, 2: 6 100");
        b.steps(3, 2);
    }

    private static void foundFirst() {
        Bench b = Bench.with("table a (x)", "trigger t after update on a when old.x = 1 do insert a (1)",
                "insert a (1)", "insert a (2)");
        b.does("update a set x = x + 10 where x < 5");
        b.holds("a", "1: 11, 2: 12, 3: 1");

        Bench then = Bench.with("table a (x)", "trigger t after update on a when old.x = 1 do update a set x = 7 where x = 2",
                "insert a (1)", "insert a (2)");
        then.does("update a set x = x * 10 where x < 5");
        then.holds("a", "1: 10, 2: 70");
    }

    private static void tooDeep() {
        Bench b = Bench.with("table a (x)", "trigger t after insert on a when new.x > 1 do insert a (new.x - 1)");
        b.does("insert a (12)");
        b.steps(12, 12);
        Bench.is("rows more", b.store.told(7), 12);
        b.ends(5, "insert a (13)");
        b.steps(12, 12);
        Bench.is("rows more", b.store.told(7), 0);
        Bench.is("rows", b.store.table(0, 1), 12);
        Bench.is("the next ROWID", b.store.table(0, 2), 13);
        b.does("drop trigger t", "trigger t before delete on a do delete a where x = old.x + 1");
        b.does("delete a where x = 1");
        b.steps(12, 12);
    }

    private static void tooMany() {
        Bench b = Bench.with("table a (x)", "table b (x)");
        for (int i = 0; i < 30; i++) {
            b.does("insert a (0)");
        }
        for (int i = 0; i < 9; i++) {
            b.does("insert b (0)");
        }
        b.does("trigger t after update on a do update b set x = x + 1");
        b.does("update a set x = 1");
        b.steps(300, 2);
        b.does("insert a (0)");
        b.ends(5, "update a set x = 2");
        b.steps(300, 2);
        Bench.is("what a trigger set", b.store.value(1, 0, 0), 30);
        Bench.is("what it set itself", b.store.value(0, 0, 0), 1);
    }

    private static void room() {
        Bench b = Bench.with("table a (x)", "trigger t after insert on a do insert a (0)");
        b.ends(5, "insert a (1)");
        b.does("drop trigger t");
        for (int i = 0; i < 39; i++) {
            b.does("insert a (" + i + ")");
        }
        b.does("trigger t before insert on a when new.x = 1 do insert a (2)",
                "trigger s before insert on a when new.x = 3 do delete a where x = 5");
        b.ends(6, "insert a (1)");
        b.steps(2, 2);
        Bench.is("the next ROWID", b.store.table(0, 2), 40);
        b.does("insert a (2)", "insert a (3)");
        Bench.is("rows", b.store.table(0, 1), 40);
        Bench.is("the next ROWID", b.store.table(0, 2), 42);
    }
}
