/** Promise 3: the FAULTS of what is too many (6) and of what is out of its place (7), and the NODES. */
final class LimitsTest {
    public static void main(String[] args) {
        tables();
        columns();
        triggers();
        rules();
        marks();
        openOnes();
        nodes();
        nodesLeftToRight();
        newAndOld();
        namesAlone();
        letOutOfPlace();
        listsOutOfPlace();
        Bench.finish();
    }

    private static void tables() {
        Bench b = Bench.with("table a (x)", "table b (x)", "table c (x)", "table d (x)", "table e (x)", "table f (x)");
        b.fault(6, "table ^g (x)");
        b.fault(3, "table ^a (x)");
        b.does("drop table c");
        b.does("table g (x)");
        Bench.is("the number that was free", b.store.find(0, 'g'), 2);
    }

    private static void columns() {
        Bench b = new Bench();
        b.fault(6, "table a (p, q, r, s, t, u, ^v)");
        b.fault(3, "table a (p, q, r, s, t, u, ^p)");
        b.does("table a (p, q, r, s, t, u, check p = u)");
        Bench.is("columns", b.store.table(0, 0), 6);
    }

    private static void triggers() {
        Bench b = Bench.with("table a (x)");
        for (int i = 0; i < 8; i++) {
            b.does("trigger t" + i + " after insert on a do raise 1");
        }
        b.fault(6, "trigger ^t8 after insert on a do raise 1");
        b.fault(3, "trigger ^t7 after insert on a do raise 1");
        b.does("drop trigger t3", "trigger t8 after insert on a do raise 1");
        Bench.is("the number that was free", b.store.find(1, Bench.packed("t8")), 3);
    }

    private static void rules() {
        Bench b = Bench.with("table a (x, " + Bench.repeated("unique (x)", 22, ", ") + ")");
        b.fault(6, "table b (x must, y must, z ^must)");
        b.fault(6, "table b (x must, unique (x), ^primary (zz))");
        b.fault(6, "table b (x must, y must, ^unique (x))");
        b.fault(6, "table b (x must, y must, ^check zz = 1)");
        b.fault(6, "table b (x must, y must, ^refer (x) to zz (x))");
        Bench.is("rules after faults", b.store.count(1), 22);
        b.does("table b (x must, unique (x))");
        Bench.is("rules", b.store.count(1), 24);
        b.fault(6, "table c (x ^must)");
        b.does("drop table a");
        b.does("table c (x must)");
        Bench.is("the rule's number", b.store.rule(0, 1), b.store.find(0, 'c'));
    }

    private static void marks() {
        Bench b = Bench.with("begin", "mark a", "mark b", "mark c", "mark d", "mark e", "mark f");
        b.fault(6, "mark ^g");
        b.does("mark c");
        Bench.is("marks", b.store.count(3), 6);
        b.does("back to a", "mark g");
        Bench.is("marks", b.store.count(3), 2);
    }

    private static void openOnes() {
        Bench b = Bench.with("table a (x)");
        String ten = "((((((((((";
        b.does("insert a (" + ten + "1))))))))))" + ")");
        b.fault(6, "insert a (" + ten + "^(1)))))))))))" + ")");
        b.does("insert a (----------1)");
        b.fault(6, "insert a (----------^-1)");
        b.does("delete a where " + Bench.repeated("not ", 10, "") + "x = 1");
        b.fault(6, "delete a where " + Bench.repeated("not ", 10, "") + "^not x = 1");
        b.does("delete a where [[[[[[[[[[x = 1]]]]]]]]]]");
        b.fault(6, "delete a where [[[[[[[[[[^[x = 1]]]]]]]]]]]");
        b.fault(6, "delete a where [[[not not not x = ((-(^-1");
        b.does("delete a where [not [not [x = 1 or not x = (-(1 + -x))]]]");
        b.does("insert a (-1 - -1 - -1 - -1 - -1 - -1 - -1 - -1 - -1 - -1 - -1 - -1 - -1)");
        b.does("delete a where not x = 1 and not x = 1 and not x = 1 and not x = 1 and not x = 1 and not x = 1 "
                + "and not x = 1 and not x = 1 and not x = 1 and not x = 1 and not x = 1 and not x = 1");
        b.does("delete a where " + Bench.repeated("[x = 1]", 12, " or "));
        b.does("insert a ((1) + (1) + (1) + (1) + (1) + (1) + (1) + (1) + (1) + (1) + (1) + (1))");
        b.does("table c (y, check " + ten + "1" + "))))))))))" + " = y)");
    }

    private static void nodes() {
        Bench b = Bench.with("table a (x default - 5 must, y, check x + 1 < - y or not [x is null and y is some])");
        // x + 1 < - y: 6; or: 1; not: 1; x is: 2; and: 1; y is: 2
        Bench.is("nodes of a check", b.store.count(4), 13);
        b.does("insert a (1 + 2, null)", "delete a where x = 1");
        Bench.is("nodes after changes", b.store.count(4), 13);
        b.does("trigger t before update on a when new.x = old.x do let y = (new.y) * 2");
        Bench.is("nodes with a trigger", b.store.count(4), 19);
        b.does("trigger s after update on a do update a set x = null, y = 1 where x # new.x");
        Bench.is("nodes with an update", b.store.count(4), 24);
        b.does("trigger r after update on a do insert a (default, 7)", "trigger q after delete on a do raise 99");
        Bench.is("nodes with default and raise", b.store.count(4), 25);
        b.does("drop trigger t");
        Bench.is("nodes without the first trigger", b.store.count(4), 19);
        b.does("drop table a");
        Bench.is("nodes without the table", b.store.count(4), 0);
    }

    private static void nodesLeftToRight() {
        Bench b = Bench.with("table a (x, check " + Bench.repeated("x", 99, "+") + " = 1)");
        Bench.is("nodes of a long check", b.store.count(4), 199);
        b.does("table b (x, check " + Bench.repeated("x", 97, "+") + " = 1)");
        Bench.is("nodes of two", b.store.count(4), 394);
        b.fault(6, "table c (x, check x + x + x = ^1)");
        b.fault(6, "table c (x, check x = 1 and x = ^1 or x = 1)");
        b.fault(6, "table c (x, check x is null, check x is null, check x is null, check ^x is null)");
        b.fault(6, "table c (x, check x = x, check x = x ^or x = x)");
        Bench.is("tables after faults", b.store.count(0), 2);
        b.does("table c (x, check x = 1)");
        b.fault(6, "trigger t before insert on c when new.x = 1 do let x = ^1");
        b.fault(6, "trigger t before insert on c do let x = new.x + - new.^x");
        b.fault(6, "trigger t before insert on c do let x = 1 + 1 ^+ 1");
        b.fault(6, "trigger t before insert on c do let x = 1 * 1 ^* 1");
        b.fault(6, "trigger t before insert on c do let x = - - - ^1");
        b.fault(6, "trigger t before insert on c when new.x is null and new.^x is null do raise 1");
        b.does("trigger t before insert on c do let x = 1 + 1");
        Bench.is("nodes at the most", b.store.count(4), 400);
        b.fault(6, "trigger s before insert on c do let x = ^null");
        b.fault(6, "trigger s before insert on c do delete a where ^not x = 1");
        b.does("trigger s before insert on c do insert a (default)", "delete a where x = 1 + 1 + 1");
        b.does("drop trigger t");
        b.does("trigger t before insert on c do let x = 1 + 1");
    }

    private static void newAndOld() {
        Bench b = Bench.with("table a (x)");
        b.fault(7, "insert a (^new.x)");
        b.fault(7, "delete a where ^old.x = 1");
        b.fault(7, "update a set x = ^new.x");
        b.fault(7, "table b (x, check ^new.x = 1)");
        b.fault(7, "trigger t before insert on a when ^old.x = 1 do raise 1");
        b.fault(7, "trigger t after delete on a when ^new.x = 1 do raise 1");
        b.fault(7, "trigger t after delete on a do delete a where x = ^new.x");
        b.fault(7, "trigger t before insert on a do let x = ^old.x");
        b.fault(2, "trigger t before insert on a when new ^x = 1 do raise 1");
        b.fault(2, "trigger t before insert on a when new.^1 = 1 do raise 1");
        b.does("trigger t after update on a when new.x = old.x do insert a (new.x + old . x)");
        b.does("trigger s after delete on a when old.x = 1 do update a set x = old.x where x = old.x");
    }

    private static void namesAlone() {
        Bench b = Bench.with("table a (x)", "table b (y)");
        b.fault(7, "insert a (^x)");
        b.fault(7, "insert a (1 + ^x)");
        b.fault(7, "trigger t before insert on a when ^x = 1 do raise 1");
        b.fault(7, "trigger t before insert on a do let x = ^x + 1");
        b.fault(7, "trigger t before insert on a do insert b (^y)");
        b.does("trigger t before insert on a when new.x = 1 do update b set y = y where y = new.x");
    }

    private static void letOutOfPlace() {
        Bench b = Bench.with("table a (x)");
        b.fault(7, "trigger t after insert on a do ^let x = 1");
        b.fault(7, "trigger t after update on a do ^let zz = 1");
        b.fault(7, "trigger t before delete on a do ^let x = 1");
        b.fault(7, "trigger t after delete on a do ^let x = 1");
        b.does("trigger t before insert on a do let x = 1", "trigger s before update on a do let x = 1");
    }

    private static void listsOutOfPlace() {
        Bench b = Bench.with("table a (x, y, z, primary (x, y), unique (z), check x = 1)");
        b.fault(7, "insert a (1, 2^)");
        b.fault(7, "insert a (1, 2, 3, 4^)");
        b.fault(7, "insert a (1, 2, 3, 4, 5, 6, 7, 8, default^)");
        b.fault(2, "insert a (1, 2, 3, 4 ^");
        b.fault(7, "table b (check 1 = 1^)");
        b.fault(7, "table b (p, q, refer (p) to a (x, y^))");
        b.fault(7, "table b (p, q, refer (p, q) to a (z^))");
        b.fault(7, "table b (p, q, refer (p, q) to a (y, x^))");
        b.fault(7, "table b (p, q, refer (p) to a (x^))");
        b.fault(7, "table b (p, q, refer (p, q) to a (x, z^))");
        b.fault(7, "table b (p, refer (p) to b (p^), unique (p))");
        b.fault(7, "trigger t after insert on a do insert a (new.x^)");
        b.does("table b (p, q, unique (q), refer (q, p) to a (x, y), refer (p) to a (z), refer (p) to b (q))");
    }
}
