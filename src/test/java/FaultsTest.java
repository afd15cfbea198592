/** Promise 3: the FAULTS of texts (section 1). */
final class FaultsTest {
    public static void main(String[] args) {
        tokens();
        leftovers();
        grammar();
        formulas();
        namesThere();
        namesNotThere();
        ruleNumbers();
        Bench.finish();
    }

    private static void tokens() {
        Bench b = Bench.with("table a (x, y)");
        b.fault(2, "^");
        b.fault(2, "  \n ^");
        b.fault(1, "^Table b (x)");
        b.fault(1, "table b (x ^! 1)");
        b.fault(1, "table b (x^\t)");
        b.fault(1, "table b (x, ^\u00e4)");
        b.fault(1, "table ^abcdefghi (x)");
        b.fault(1, "insert a (^1234567890, 1)");
        b.fault(1, "insert a (^0000000001, 1)");
        b.fault(2, "insert ^, \u0001");
        b.fault(1, "^_");
        b.fault(2, "^tables b (x)");
        b.fault(2, "insert a (1, 2^x)");
        b.fault(2, "table ^when (x)");
        b.fault(2, "table b (^to)");
        b.does("table abcdefgh (a1b2c3d4)", "insert\na(999999999,1)", "insert a(1,2)", "update a set x=x+1where y=1");
        b.does("update a set x = 1 where x<=2and y>=2or x>y");
        b.holds("a", "1: 1 1, 2: 1 2");
        b.fault(2, "update a set x = 1 where x < ^= 2");
        b.fault(2, "update a set x = 1 where x >^> 2");
        b.fault(2, "^a");
        b.fault(2, "^7");
        b.fault(2, "^" + "(".repeat(600));
        b.does("delete a where x = 1" + "+1".repeat(290));
        b.fault(2, "delete a where x =1" + "+1".repeat(290) + "+^");
    }

    /** What an earlier, longer text left behind on the tape is no part of a shorter one. */
    private static void leftovers() {
        Bench b = Bench.with("table ab (x)", "insert ab (12)");
        b.fault(4, "drop table ^a");
        b.does("update ab set x = 1 where x <= 12");
        b.fault(2, "update ab set x = 1 where x <^");
        b.does("begin", "mark m23", "update ab set x = 123456789", "update ab set x = 12");
        b.holds("ab", "1: 12");
        b.does("mark m2", "mark m");
        Bench.is("marks", b.store.count(3), 3);
    }

    private static void grammar() {
        Bench b = Bench.with("table a (x, y, primary (x))");
        b.fault(2, "table ^");
        b.fault(2, "table b ^");
        b.fault(2, "table b (^)");
        b.fault(2, "table b (x^");
        b.fault(2, "table b (x,^)");
        b.fault(2, "table b (x) ^x");
        b.fault(2, "table b (x must ^default 1)");
        b.fault(2, "table b (x default ^null)");
        b.fault(2, "table b (x default - ^- 1)");
        b.fault(2, "table b (x ^late)");
        b.fault(2, "table b (x, primary ^x)");
        b.fault(2, "table b (x, primary (^))");
        b.fault(2, "table b (x, primary (x ^y))");
        b.fault(2, "table b (x, unique (x,^))");
        b.fault(2, "table b (x, unique (x) late ^late)");
        b.fault(2, "table b (x, refer (x) ^a (x))");
        b.fault(2, "table b (x, refer (x) to a ^)");
        b.fault(2, "table b (x, refer (x) to a (x, ^");
        b.fault(2, "table b (x, refer (x) to a (x) update stop ^delete stop)");
        b.fault(2, "table b (x, refer (x) to a (x) delete ^)");
        b.fault(2, "table b (x, refer (x) to a (x) delete ^set)");
        b.fault(2, "table b (x, refer (x) to a (x) late ^delete stop)");
        b.fault(2, "trigger t ^insert on a do raise 1");
        b.fault(2, "trigger t before ^raise on a do raise 1");
        b.fault(2, "trigger t before insert ^a do raise 1");
        b.fault(2, "trigger t before insert on a ^raise 1");
        b.fault(2, "trigger t before insert on a do ^begin");
        b.fault(2, "trigger t before insert on a do raise ^- 1");
        b.fault(2, "trigger t before insert on a do let x ^1");
        b.fault(2, "trigger t before insert on a do raise 1 ^where");
        b.fault(2, "drop ^a");
        b.fault(2, "drop table ^table");
        b.fault(2, "drop trigger ^");
        b.fault(2, "insert ^(1, 2)");
        b.fault(2, "insert a ^1, 2");
        b.fault(2, "insert a (^)");
        b.fault(2, "insert a (1, 2,^)");
        b.fault(2, "insert a (default ^+ 1, 2)");
        b.fault(2, "insert a (1, 2) ^where x = 1");
        b.fault(2, "update a ^x = 1");
        b.fault(2, "update a set x ^< 1");
        b.fault(2, "update a set x = ^default");
        b.fault(2, "update a set x = 1, ^where x = 1");
        b.fault(2, "update a set x = 1, y = 2, ^7 = 1");
        b.fault(2, "delete a ^x = 1");
        b.fault(2, "delete a where ^");
        b.fault(2, "begin ^begin");
        b.fault(2, "commit ^all");
        b.fault(2, "back ^a");
        b.fault(2, "back to ^");
        b.fault(2, "mark ^now");
        b.fault(2, "late ^");
        b.fault(2, "late ^x");
        b.fault(2, "now 0, ^all");
        b.fault(2, "now all ^, 0");
        Bench.is("tables after faults", b.store.count(0), 1);
        Bench.is("rules after faults", b.store.count(1), 1);
        Bench.is("triggers after faults", b.store.count(2), 0);
    }

    private static void formulas() {
        Bench b = Bench.with("table a (x, y)");
        b.fault(2, "delete a where x^");
        b.fault(2, "delete a where x = ^");
        b.fault(2, "delete a where x = 1 ^= 1");
        b.fault(2, "delete a where (x ^= 1) = 1");
        b.fault(2, "delete a where [x = 1^");
        b.fault(2, "delete a where [x^]");
        b.fault(2, "delete a where x is ^not null");
        b.fault(2, "delete a where x is null ^is null");
        b.fault(2, "delete a where x = 1 and ^or x = 1");
        b.fault(2, "delete a where not ^");
        b.fault(2, "delete a where x = y ^x");
        b.fault(2, "delete a where x = (1 + ^)");
        b.fault(2, "delete a where x = 1 + ^* 2");
        b.fault(2, "delete a where ^is null");
        b.fault(2, "update a set x = 1 ^= 1");
        b.fault(2, "update a set x = ^[1]");
        b.fault(2, "update a set x = ^not 1");
        b.fault(2, "update a set x = (1^]");
        b.does("delete a where [[x = 1] and not [x is some or y is null]] or - x + (y) * 2 / - 1 # null");
    }

    private static void namesThere() {
        Bench b = Bench.with("table a (x, y, primary (x))", "trigger t before insert on a do raise 1");
        b.fault(3, "table ^a (x)");
        b.fault(3, "table b (x, ^x)");
        b.fault(3, "table b (x, y, primary (x, y, ^x))");
        b.fault(3, "table b (x, unique (x, ^x))");
        b.fault(3, "table b (x, y, refer (x, ^x) to a (x))");
        b.fault(3, "table b (x, y, refer (x, y) to a (x, ^x))");
        b.fault(3, "trigger ^t before insert on a do raise 1");
        b.fault(3, "update a set x = 1, ^x = 2");
        b.fault(3, "update a set x = 1, y = 2, ^y = 2");
        b.fault(3, "table b (p, q, r, s, t, u, unique (p, q, r, s, t, u, ^p))");
        b.does("table b (p, q, r, s, t, u)");
        b.fault(3, "update b set p = 1, q = 2, r = 3, s = 4, t = 5, u = 6, ^p = 7");
        b.fault(2, "update b set p = 1, q = 2, r = 3, s = 4, t = 5, u = 6, ^where p = 7");
        b.does("update b set p = 1, q = 2, r = 3, s = 4, t = 5, u = 6", "drop table b");
        b.does("table t (t)", "trigger a after insert on t do raise 1");
    }

    private static void namesNotThere() {
        Bench b = Bench.with("table a (x, y, primary (x))", "trigger t before insert on a do raise 1");
        b.fault(4, "insert ^b (1)");
        b.fault(4, "update ^b set x = 1");
        b.fault(4, "delete ^b");
        b.fault(4, "drop table ^b");
        b.fault(4, "drop table ^t");
        b.fault(4, "drop trigger ^a");
        b.fault(4, "back to ^m");
        b.fault(4, "trigger s before insert on ^b do raise 1");
        b.fault(4, "trigger s before insert on a do let ^z = 1");
        b.fault(4, "trigger s before insert on a when new.^z = 1 do raise 1");
        b.fault(4, "trigger s before update on a when old.^z = 1 do raise 1");
        b.fault(4, "trigger s before insert on a do insert ^b (1)");
        b.fault(4, "trigger s before insert on a do delete a where ^z = 1");
        b.fault(4, "table b (x, primary (^y))");
        b.fault(4, "table b (x, check x < ^y, y)");
        b.fault(4, "table b (x, unique (x, ^y), y)");
        b.fault(4, "table b (x, refer (^y) to a (x))");
        b.fault(4, "table b (x, refer (x) to ^c (x))");
        b.fault(4, "table b (x, refer (x) to a (^z))");
        b.fault(4, "table b (x, unique (x), refer (x) to b (^y), y)");
        b.fault(4, "update a set ^z = 1");
        b.fault(4, "update a set x = ^z");
        b.fault(4, "delete a where ^z = 1");
        b.does("table c (u)", "trigger s before insert on a do update c set u = u + new.x where u = new.y");
        b.fault(4, "trigger r before insert on a do update c set u = new.^u");
        b.fault(4, "trigger r before insert on a do update c set u = ^x");
        b.does("table d (x, unique (x), refer (x) to d (x))");
    }

    private static void ruleNumbers() {
        Bench b = Bench.with("table a (x must, unique (x) late, check x > 0)");
        b.fault(5, "late ^0");
        b.fault(5, "late 1, ^2");
        b.fault(5, "late ^3");
        b.fault(5, "now ^3");
        b.fault(5, "now 0, 1, 2, ^24");
        b.fault(5, "now ^999999999");
        b.does("begin");
        b.does("late 1", "now 0, 1, 2", "late 1, 1", "now 1");
    }
}
