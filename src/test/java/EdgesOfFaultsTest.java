/** Section 1 TEXTS: the edges of the FAULTS and of the NODES, a method for each sentence that names one. */
final class EdgesOfFaultsTest {
    public static void main(String[] args) {
        ends();
        listsOfOneOrMore();
        thereAlready();
        notThere();
        notThereAnyMore();
        numbersOfRules();
        tablesColumnsTriggers();
        rules();
        marks();
        openOnes();
        upToTheEndOfWhatIsBehind();
        nodesAtTheirTokens();
        whatIsNoNode();
        namesAloneAreNoNodes();
        newAndOld();
        namesAlone();
        lets();
        secondNames();
        parts();
        itemsWithoutAColumn();
        firstFromTheLeft();
        ofOneTokenByCode();
        nothingIsLeftOfAFault();
        Bench.finish();
    }

    private static void ends() {
        Bench.sentence("2 .. or the end (the length of the tape)");
        Bench b = Bench.with("table a (x, y, primary (x), check x > 0 late)");
        b.fault(2, "^");
        b.fault(2, "insert a (1, 2^");
        b.fault(2, "insert a (1, 2 \n ^");
        String[] whole = {"table b (x default - 1 must, primary (x) late, check x = 1, refer (x) to a (x) delete stop update null)",
            "trigger t before insert on a when [new.x + (1) is null] do update a set x = - 1, y = 2", "drop table a",
            "drop trigger t", "insert a (default, 1)", "back to m", "mark m", "late 1", "now 0, 1"};
        for (String statement : whole) {
            for (int length = 0; length < statement.length(); length++) {
                if (length == 0 || statement.charAt(length - 1) == ' ') {
                    String cut = statement.substring(0, length);
                    if (isWhole(cut)) {
                        continue;
                    }
                    b = Bench.with("table a (x, y, primary (x), check x > 0 late)", "trigger s before insert on a do raise 1");
                    b.fault(2, cut + "^");
                }
            }
        }
    }

    private static boolean isWhole(String cut) {
        String text = cut.trim();
        return text.equals("back") || text.endsWith("x = - 1");
    }

    private static void listsOfOneOrMore() {
        Bench.sentence("NAMES: one or more, with , between");
        Bench b = Bench.with("table a (p, q, r, s, t, u, primary (p, q, r, s, t, u), unique (u))");
        b.fault(2, "table b (x, primary (^))");
        b.fault(2, "table b (x, refer (^) to a (u))");
        b.fault(2, "table b (x, refer (x) to a (^))");
        b.fault(2, "table b (x, unique (^, x))");
        b.fault(2, "table b (x, unique (x, ^))");
        b.fault(2, "table b (x, unique (x, ^, x))");
        b.fault(2, "table b (^)");
        b.fault(2, "table b (^, x)");
        b.fault(2, "table b (x, ^)");
        b.fault(2, "insert a (^)");
        b.fault(2, "insert a (1, 2, 3, 4, 5, 6, ^)");
        b.fault(2, "update a set ^");
        b.fault(2, "update a set p = 1 ^q = 2");
        b.fault(2, "now ^");
        b.fault(2, "now 0 ^1");
        b.fault(2, "now 0, ^");
        b.does("table b (x)", "table c (p, q, r, s, t, u, refer (u, t, s, r, q, p) to a (p, q, r, s, t, u))");
        b.does("update a set p = 1, q = 2, r = 3, s = 4, t = 5, u = 6", "begin", "now 0", "now 0, 1, 2, 0, 1, 2");
    }

    private static void thereAlready() {
        Bench.sentence("3 a NAME that is there already (of a new table, trigger; a column of that table; one that the same row "
                + "of NAMES, or set, has)");
        Bench b = Bench.with("table a (x, y, unique (x, y), unique (x))", "trigger t before insert on a do raise 1");
        b.fault(3, "table ^a (x)");
        b.fault(3, "trigger ^t after delete on a do raise 1");
        b.fault(3, "table b (a, b, ^a)");
        b.fault(3, "table b (x, y, primary (y, ^y))");
        b.fault(3, "table b (x, y, unique (x, y, ^y))");
        b.fault(3, "table b (x, y, refer (x, ^x) to a (x, y))");
        b.fault(3, "table b (x, y, refer (x, y) to a (x, ^x))");
        b.fault(3, "update a set y = 1, ^y = 1");
        b.fault(3, "trigger s before insert on a do update a set x = 1, ^x = 1");
        b.does("table t (a, t)", "trigger a before insert on t do raise 1");
        b.does("table b (x, y, primary (x), unique (x), unique (x, y), refer (x, y) to a (x, y), refer (x) to a (x))");
        b.does("drop trigger t", "trigger t before insert on a do raise 1", "drop table b", "table b (x)");
    }

    private static void notThere() {
        Bench.sentence("4 a NAME of what is not there: a table (one is there in its own items) .. a column of the table that is "
                + "meant (in items of the table itself one told before; behind new, old and let one of the trigger's table)");
        Bench b = Bench.with("table a (x, unique (x))", "table c (u, unique (u))");
        b.does("table b (y, unique (y), refer (y) to b (y))");
        b.fault(4, "table d (x, refer (x) to ^e (x))");
        b.fault(4, "table d (x, refer (x) to ^x (x))");
        b.fault(4, "table d (x, unique (x), refer (x) to d (^u))");
        b.fault(4, "table d (x, unique (^u), u)");
        b.fault(4, "table d (x, check ^u = 1, u)");
        b.fault(4, "table d (check ^x = 1, x)");
        b.fault(4, "table d (x, refer (^u) to c (u))");
        b.fault(4, "table d (x, refer (x) to c (^x))");
        b.does("table d (x, check x = 1, u, check u = x, unique (u, x))");
        b.fault(4, "trigger t before update on a do update c set u = new.^u");
        b.fault(4, "trigger t before update on a do update c set u = old.^u");
        b.fault(4, "trigger t before update on a do let ^u = 1");
        b.fault(4, "trigger t before update on a do update c set ^x = 1");
        b.fault(4, "trigger t before update on a do delete c where ^x = 1");
        b.does("trigger t before update on a when old.x = new.x do update c set u = u + new.x + old.x where u = new.x");
        b.does("trigger s before update on a do let x = old.x");
    }

    private static void notThereAnyMore() {
        Bench.sentence("4 a NAME of what is not there: a table .. a trigger, a mark");
        Bench b = Bench.with("table a (x)", "trigger t before insert on a do raise 1");
        b.fault(4, "drop table ^t");
        b.fault(4, "drop trigger ^a");
        b.does("drop trigger t");
        b.fault(4, "drop trigger ^t");
        b.fault(4, "back to ^m");
        b.does("begin", "mark m", "mark n", "back to m");
        b.fault(4, "back to ^n");
        b.does("commit");
        b.fault(4, "back to ^m");
        b.does("begin");
        b.fault(4, "back to ^m");
        b.does("back", "drop table a");
        b.fault(4, "drop table ^a");
        b.fault(4, "delete ^a");
        b.fault(4, "trigger t before insert on ^a do raise 1");
    }

    private static void numbersOfRules() {
        Bench.sentence("5 a NUMBER that is none of a rule (late, now; of late: of one that may wait)");
        Bench b = Bench.with("table a (x must, unique (x) late)", "table b (x, check x = 1 late)", "drop table a", "begin");
        b.fault(5, "now ^0");
        b.fault(5, "now ^1");
        b.fault(5, "now ^3");
        b.fault(5, "now 2, ^23");
        b.fault(5, "now ^24");
        b.fault(5, "late ^32");
        b.fault(5, "late ^34");
        b.fault(5, "now ^999999999");
        b.does("now 2", "late 2", "now 002", "late 000000002");
        Bench.is("the rule waits", b.store.rule(2, 5), 1);
        Bench may = Bench.with("table a (x must, primary (x), unique (x), check x = 1, refer (x) to a (x), primary (x) late, "
                + "unique (x) late, check x = 1 late, refer (x) to a (x) late)", "begin");
        for (int rule = 0; rule < 5; rule++) {
            may.fault(5, "late ^" + rule);
            may.fault(5, "late 8, ^" + rule + ", 7");
            may.does("now " + rule);
        }
        may.does("late 5, 6, 7, 8", "now 0, 1, 2, 3, 4, 5, 6, 7, 8");
        Bench full = Bench.with("table a (x, " + Bench.repeated("unique (x) late", 24, ", ") + ")", "begin", "now 23", "late 23");
        full.fault(5, "late ^24");
    }

    private static void tablesColumnsTriggers() {
        Bench.sentence("6 a 7th table, 7th column, 9th trigger");
        Bench b = new Bench();
        for (int i = 0; i < 6; i++) {
            b.does("table t" + i + " (p, q, r, s, t, u)");
        }
        b.fault(6, "table ^t6 (x)");
        b.does("drop table t5");
        b.fault(6, "table t6 (p, q, r, s, t, u, ^v)");
        b.fault(6, "table t6 (p, q, r, s, t, u, ^v must)");
        b.does("table t6 (p, q, r, s, t, u, primary (p))");
        b.fault(6, "table ^t7 (x)");
        for (int i = 0; i < 8; i++) {
            b.does("trigger t" + i + " before insert on t" + i / 2 + " do raise 1");
        }
        b.fault(6, "trigger ^t8 before insert on t0 do raise 1");
        b.does("drop table t1");
        b.does("trigger t8 before insert on t0 do raise 1", "trigger t9 before insert on t0 do raise 1");
        b.fault(6, "trigger ^t10 before insert on t0 do raise 1");
    }

    private static void rules() {
        Bench.sentence("6 .. 25th rule (at the word, or must, by which it is told)");
        String[] items = {"y ^must", "y default 3 ^must", "^primary (x)", "^unique (x)", "^check x = 1", "^refer (x) to a (x)"};
        for (String item : items) {
            Bench b = Bench.with("table a (x, " + Bench.repeated("unique (x)", 23, ", ") + ")");
            b.fault(6, "table b (x, check x = 0, " + item + ")");
            Bench.is("rules behind the fault", b.store.count(1), 23);
            b.does("table b (x, " + item.replace("^", "") + ")");
            Bench.is("rules with the 24th", b.store.count(1), 24);
            b.fault(6, "table c (x, " + item + ")");
            b.does("table c (x default 1, y)");
        }
    }

    private static void marks() {
        Bench.sentence("6 .. 7th mark (at its NAME)");
        Bench b = Bench.with("begin", "mark a", "mark b", "mark c", "mark d", "mark e", "mark f");
        b.fault(6, "mark ^g");
        b.fault(6, "mark   ^aa");
        b.does("mark f", "mark a", "mark c");
        Bench.is("marks", b.store.count(3), 6);
        b.fault(6, "mark ^g");
        b.does("back to a");
        b.does("mark g");
        b.fault(6, "mark ^h");
        b.does("back", "begin", "mark h");
        Bench.is("marks of the next", b.store.count(3), 1);
    }

    private static void openOnes() {
        Bench.sentence("6 .. an eleventh ( [ - not that is open");
        Bench b = Bench.with("table a (x)");
        String[] four = {"(", "[", "-", "not "};
        String nine = "[[[[[[[[[";
        b.does("delete a where " + nine + "[x = 1" + "]".repeat(10));
        b.does("delete a where " + nine + "not x = 1" + "]".repeat(9));
        b.does("delete a where " + nine + "x = -1" + "]".repeat(9));
        b.does("delete a where " + nine + "x = (1)" + "]".repeat(9));
        for (String eleventh : four) {
            boolean ofTest = eleventh.equals("[") || eleventh.equals("not ");
            b.fault(6, "delete a where " + nine + "[" + (ofTest ? "" : "x = ") + "^" + eleventh);
            b.fault(6, "delete a where " + "not ".repeat(10) + (ofTest ? "" : "x = ") + "^" + eleventh);
            if (!ofTest) {
                b.fault(6, "insert a (" + "(".repeat(10) + "^" + eleventh);
                b.fault(6, "insert a (" + "-".repeat(10) + "^" + eleventh);
                b.fault(6, "table b (x, check " + "(-".repeat(5) + "^" + eleventh);
                b.fault(6, "trigger t before insert on a do let x = " + "-(".repeat(5) + "^" + eleventh);
            }
        }
        b.does("trigger t before insert on a when not [-(-(-(-(new.x)))) = 1] do let x = -(-(-(-(-(new.x)))))");
    }

    private static void upToTheEndOfWhatIsBehind() {
        Bench.sentence("(- and not up to the end of what is behind)");
        Bench b = Bench.with("table a (x)");
        b.does("insert a (" + "-".repeat(10) + "1 + " + "-".repeat(10) + "2 * " + "-".repeat(10) + "3)");
        b.does("insert a (" + "(".repeat(10) + "1" + ")".repeat(10) + " - " + "(".repeat(10) + "1" + ")".repeat(10) + ")");
        b.does("delete a where " + "not ".repeat(10) + "x = 9 and " + "not ".repeat(10) + "x = 8 or " + "not ".repeat(10) + "x = 9");
        b.does("update a set x = 1 - 2 - 3 - 4 - 5 - 6 - 7 - 8 - 9 - 10 - 11 - 12");
        b.does("delete a where not [not x = -1] and [[[[[[[[[[x = 1]]]]]]]]]] or " + "-".repeat(10) + "x = " + "-".repeat(10) + "2");
        b.fault(6, "insert a (-(1 + " + "(".repeat(8) + "^-1");
        b.does("insert a (-(1) + " + "(".repeat(8) + "-1" + ")".repeat(8) + ")");
        b.fault(6, "delete a where not [x = 1 or " + "not ".repeat(8) + "^[x = 1");
        b.does("delete a where not [x = 1] or " + "not ".repeat(9) + "[x = 1]");
        b.fault(6, "delete a where not x = " + "-".repeat(9) + "^(x)");
    }

    /** A store in which there are 397 nodes. */
    private static Bench nearlyFull() {
        Bench b = Bench.with("table a (x, y, check " + Bench.repeated("x", 100, "*") + " < 1)",
                "table b (x, y, check " + Bench.repeated("x", 98, "/") + " > 1)");
        Bench.is("nodes", b.store.count(4), 398);
        b.does("drop table b", "table b (x, y, check - " + Bench.repeated("x", 97, "/") + " > 1)");
        Bench.is("nodes", b.store.count(4), 397);
        return b;
    }

    private static void nodesAtTheirTokens() {
        Bench.sentence("6 .. a 401st NODE (at the token that makes it)");
        Bench b = nearlyFull();
        String[] ends = {"- - - ^7", "- - - ^- 7", "- 1 + ^7", "1 - 2 ^- 3", "1 + 2 ^+ 3", "1 * 2 ^* 3", "1 / 2 ^/ 3", "- 1 * ^7",
            "- 1 - ^null", "- 1 - ^- 1", "- 1 + new.^x", "- 1 + old.^y", "(- (1) + (^2", "null + (- ^1)"};
        for (String end : ends) {
            b.fault(6, "trigger t before update on a do let x = " + end);
        }
        String[] tests = {"x = 1 ^or x = 1", "x = 1 ^and x = 1", "- x = ^y", "x + 1 ^= 1", "x + 1 ^# 1", "x + 1 ^< 1", "x + 1 ^<= 1",
            "x + 1 ^> 1", "x + 1 ^>= 1", "x + 1 ^is null", "x + 1 ^is some", "x is null and ^x is some", "not not x ^is null",
            "not not not ^not x = 1", "not not not ^x = 1", "not [not [x ^= 1"};
        for (String test : tests) {
            b.fault(6, "trigger t before update on a do delete a where " + test);
        }
        b.fault(6, "trigger t before update on a when new.x = 1 do insert b (default, ^1)");
        b.fault(6, "trigger t before update on a when new.x = 1 do update b set x = ^1");
        b.fault(6, "trigger t before update on a do update b set x = 1, y = 2 where x ^= 1");
        b.fault(6, "table c (x, check x = 1, check ^x = 1)");
        Bench.is("nodes behind the faults", b.store.count(4), 397);
        b.does("trigger t before update on a when new.x is null do insert b (default, 1)");
        Bench.is("nodes", b.store.count(4), 400);
        b.fault(6, "table c (x, check ^1 = 1)");
        b.fault(6, "table c (x, check ^- 1 = 1)");
        b.fault(6, "table c (x, check (^1) = 1)");
        b.fault(6, "table c (x, check ^not 1 = 1)");
        b.does("drop trigger t", "table c (x, check x = 1)");
    }

    private static void whatIsNoNode() {
        Bench.sentence("NODES are each .. in what is kept: defaults not, checks and triggers alone");
        Bench b = nearlyFull();
        b.does("table c (x, unique (x), check x = 1)");
        Bench.is("nodes at the most", b.store.count(4), 400);
        b.does("table d (x default 5 must, y default - 6 must, primary (x), unique (x, y), refer (x) to c (x))");
        b.does("insert a (1 - 2 * 3, - null)", "update a set x = x + 1 where not x = 1 and x is null or x / 2 < 3");
        b.does("delete a where - x + 1 = 1 or x is some");
        b.does("trigger t before insert on a do raise 7", "trigger s before update on a do insert a (default, default)",
                "trigger r before update on a do delete b");
        Bench.is("nodes as before", b.store.count(4), 400);
        Bench.sentence("NODES are .. all tables and triggers together");
        b.fault(6, "trigger q before update on b do delete b where ^x = 1");
        b.does("drop trigger s", "drop table a");
        Bench.is("nodes without a table", b.store.count(4), 199);
        b.does("trigger q before update on b do delete b where x = 1");
        Bench.is("nodes with a trigger", b.store.count(4), 202);
    }

    private static void namesAloneAreNoNodes() {
        Bench.sentence("NODES are each .. NAME of a column (so a NAME alone that can't be a column's is 7 where 400 are there)");
        Bench b = nearlyFull();
        b.does("trigger t before update on a when new.x is some do insert b (default, 1)");
        Bench.is("nodes at the most", b.store.count(4), 400);
        for (String name : new String[] {"x", "zz", "a"}) {
            b.fault(7, "trigger s before insert on a when ^" + name + " = 1 do raise 1");
            b.fault(7, "trigger s after delete on b when [(^" + name + ") is null] do raise 1");
            b.fault(7, "trigger s before insert on a do let x = ^" + name);
            b.fault(7, "trigger s before update on a do let y = (^" + name + " + 1)");
            b.fault(7, "trigger s before insert on a do insert a (^" + name + ", 1)");
            b.fault(7, "trigger s after update on a do insert b (default, ^" + name + ")");
        }
        Bench.sentence("6 .. a 401st NODE (where a NAME is a column's, and where a token ahead of a NAME alone makes it)");
        b.fault(6, "trigger s before insert on a when new.^x = 1 do raise 1");
        b.fault(6, "trigger s before insert on a do let x = ^- zz");
        b.fault(6, "trigger s before insert on a when ^not zz = 1 do raise 1");
        b.fault(6, "trigger s before insert on a do insert a (^1, zz)");
        b.fault(6, "trigger s before insert on a do update b set x = ^x");
        b.fault(6, "trigger s before insert on a do delete b where ^y = 1");
        Bench.is("nodes behind the faults", b.store.count(4), 400);
    }

    private static void newAndOld() {
        Bench.sentence("7 new, old (at them) outside of a trigger, in one of whose EVENT there is none (insert has new alone, "
                + "delete old alone)");
        Bench b = Bench.with("table a (x)");
        b.fault(7, "insert a (^new.x)");
        b.fault(7, "insert a (^old.x)");
        b.fault(7, "insert a (^new)");
        b.fault(7, "update a set x = ^old.zz");
        b.fault(7, "delete a where ^new.x = 1");
        b.fault(7, "table b (x, check x = ^old.x)");
        for (String time : new String[] {"before", "after"}) {
            b.fault(7, "trigger t " + time + " insert on a when ^old.x = 1 do raise 1");
            b.fault(7, "trigger t " + time + " insert on a do insert a (^old.x)");
            b.fault(7, "trigger t " + time + " delete on a when 1 = ^new.x do raise 1");
            b.fault(7, "trigger t " + time + " delete on a do update a set x = ^new.x");
            b.does("trigger t " + time + " insert on a when new.x = 1 do raise 1", "drop trigger t");
            b.does("trigger t " + time + " update on a when new.x = old.x do raise 1", "drop trigger t");
            b.does("trigger t " + time + " delete on a when old.x = 1 do delete a where x = old.x", "drop trigger t");
        }
    }

    private static void namesAlone() {
        Bench.sentence("7 .. a NAME alone (at it) in a trigger's when or let, in insert");
        Bench b = Bench.with("table a (x)", "table b (y)");
        b.fault(7, "insert a (^x)");
        b.fault(7, "insert a (- (1 + ^x))");
        b.fault(7, "trigger t after update on a when ^x = 1 do raise 1");
        b.fault(7, "trigger t after update on a when new.x = ^x do raise 1");
        b.fault(7, "trigger t before update on a do let x = ^x");
        b.fault(7, "trigger t before update on a do let x = old.x + ^x");
        b.fault(7, "trigger t before update on a do insert a (^x)");
        b.fault(7, "trigger t before update on a do insert b (^y)");
        b.does("trigger t before update on a do update b set y = y + 1 where y = new.x", "update a set x = x where x = x");
        b.does("table c (z, check z = z)", "trigger s before update on a do delete b where y = old.x");
    }

    private static void lets() {
        Bench.sentence("7 .. let (at it) in an after trigger, or of delete");
        Bench b = Bench.with("table a (x)");
        for (String event : new String[] {"insert", "update", "delete"}) {
            b.fault(7, "trigger t after " + event + " on a do ^let x = 1");
            if (event.equals("delete")) {
                b.fault(7, "trigger t before delete on a when old.x = 1 do ^let x = 1");
            } else {
                b.does("trigger t before " + event + " on a do let x = 1", "drop trigger t");
            }
        }
    }

    private static void secondNames() {
        Bench.sentence("7 .. at their ) the second NAMES of a refer, if they are other many than the first, or not just those of a "
                + "primary or unique of that table, told before, in its order");
        Bench b = Bench.with("table a (x, y, z, primary (x, y), unique (z), check x = 1, w must)");
        b.fault(7, "table b (p, q, refer (p) to a (x, y^))");
        b.fault(7, "table b (p, q, refer (p, q) to a (z^))");
        b.fault(7, "table b (p, q, r, refer (p, q, r) to a (x, y^))");
        b.fault(7, "table b (p, q, refer (p) to a (x^))");
        b.fault(7, "table b (p, q, refer (p) to a (y^))");
        b.fault(7, "table b (p, q, refer (p) to a (w^))");
        b.fault(7, "table b (p, q, refer (p, q) to a (y, x^))");
        b.fault(7, "table b (p, q, refer (p, q) to a (x, z^))");
        b.fault(7, "table b (p, q, r, refer (p, q, r) to a (x, y, z^))");
        b.fault(7, "table b (p, refer (p) to b (p^), unique (p))");
        b.fault(7, "table b (p, refer (p) to b (p^))");
        b.fault(7, "table b (p, q, unique (p, q), refer (p) to b (p^))");
        b.does("table b (p, q, refer (p, q) to a (x, y), refer (q, p) to a (x, y), refer (q) to a (z), unique (q), "
                + "refer (p) to b (q))");
    }

    private static void parts() {
        Bench.sentence("7 .. PARTS that are other many than the table's columns");
        Bench b = Bench.with("table a (x)", "table b (p, q, r, s, t, u)");
        b.fault(7, "insert a (1, 2^)");
        b.fault(7, "insert b (1, 2, 3, 4, 5^)");
        b.fault(7, "insert b (1, 2, 3, 4, 5, 6, 7^)");
        b.fault(7, "insert b (default^)");
        b.fault(7, "insert b (" + Bench.repeated("default", 70, ",") + "^)");
        b.fault(7, "insert b (" + Bench.repeated("1", 290, ",") + "^)");
        b.fault(7, "trigger t after insert on a do insert b (new.x^)");
        b.does("insert a (1)", "insert b (1, 2, default, 4, 5, 6)");
        b.holds("b", "1: 1 2 null 4 5 6");
    }

    private static void itemsWithoutAColumn() {
        Bench.sentence("7 .. items without a column");
        Bench b = new Bench();
        b.fault(7, "table a (check 1 = 1^)");
        b.fault(7, "table a (check 1 = 1, check null is null late^)");
        b.does("table a (check 1 = 1, x)");
    }

    private static void firstFromTheLeft() {
        Bench.sentence("FAULTS, the first from the left");
        Bench b = Bench.with("table a (x, y)");
        b.fault(7, "insert a (^x, zz, !");
        b.fault(4, "insert ^zz (!");
        b.fault(3, "table ^a (x, x, !");
        b.fault(2, "insert a ^a (!");
        b.fault(1, "insert ^! zz (");
        b.fault(5, "now ^7 zz !");
        b.fault(7, "trigger t after insert on a do ^let zz ! 1");
        b.fault(7, "trigger t after insert on a when ^old ! zz = 1");
        b.fault(6, "insert a (" + "(".repeat(10) + "^( zz !");
        b.fault(7, "insert a (1^) zz");
        b.fault(4, "table b (x, primary (^zz, x, x), check !");
        b.fault(2, "table b (x, check x ^, zz abcdefghi)");
    }

    private static void ofOneTokenByCode() {
        Bench.sentence("Of one token by code");
        Bench b = nearlyFull();
        b.fault(1, "begin ^!");
        b.fault(1, "begin ^abcdefghi");
        b.fault(1, "begin ^1234567890");
        b.fault(2, "insert a (1,^)");
        b.fault(2, "table c (^)");
        b.fault(2, "table c (x, refer (x) to a (^))");
        b.fault(2, "table c (x must ^must)");
        b.does("trigger t before update on a when new.x is some do insert b (default, 1)");
        b.fault(4, "trigger s before insert on a do delete a where ^zz = 1");
        b.fault(4, "trigger s before insert on a when new.^zz = 1 do raise 1");
        b.fault(4, "table c (x, check ^zz = 1)");
        b.fault(2, "table c (x, check ^must = 1)");
        b.fault(7, "insert a (^x, 1)");
        b.fault(7, "table c (x, check ^new.x = 1)");
        Bench full = Bench.with("table a (p, q, r, s, t, u, " + Bench.repeated("unique (p)", 23, ", ") + ")", "table b (x)",
                "table c (x)", "table d (x)", "table e (x)");
        full.fault(2, "table f (x must ^must)");
        full.fault(3, "table f (p, q, r, s, t, u, ^t)");
        full.does("table f (x)");
        full.fault(3, "table ^a (x)");
        for (int i = 0; i < 8; i++) {
            full.does("trigger t" + i + " before insert on a do raise 1");
        }
        full.fault(3, "trigger ^t4 before insert on a do raise 1");
        full.fault(2, "trigger ^drop before insert on a do raise 1");
    }

    private static void nothingIsLeftOfAFault() {
        Bench.sentence("run: 1 a FAULT (and all is as before)");
        Bench b = Bench.with("table a (x must, unique (x) late)", "insert a (1)", "trigger t before insert on a do raise 1");
        String state = b.state();
        b.fault(2, "table b (x must, y default 3, primary (x), check x = y, refer (x) to a (x)^");
        b.fault(2, "trigger s before insert on a when new.x = 1 do delete a where x = 1 ^)");
        b.fault(2, "insert a (2) ^)");
        b.fault(2, "update a set x = 2 ^set");
        b.fault(2, "drop table a ^,");
        b.fault(2, "drop trigger t ^,");
        b.fault(2, "begin ^1");
        Bench.isText("state behind faults", b.state(), state);
        b.does("begin", "mark m");
        state = b.state();
        b.fault(2, "commit ^1");
        b.fault(2, "back ^1");
        b.fault(2, "back to m ^1");
        b.fault(2, "mark n ^1");
        b.fault(2, "now 1 ^1");
        b.fault(2, "late all ^1");
        Bench.isText("state behind faults in a transaction", b.state(), state);
        b.does("back", "table b (x, y)", "insert b (default, default)");
        b.holds("b", "1: null null");
    }
}
