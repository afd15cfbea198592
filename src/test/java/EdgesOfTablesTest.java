/** Section 2 TABLES: the edges of numbers, values, rows and drops, of SUMS and of TESTS. */
final class EdgesOfTablesTest {
    private static final String MOST = "(999999999 + 999999999 + 147483649)";
    private static final String LEAST = "(- 999999999 - 999999999 - 147483650)";

    public static void main(String[] args) {
        numbersOfTables();
        numbersOfTriggers();
        numbersOfRules();
        whichItemsHaveARule();
        valuesWrap();
        storedValuesWrap();
        rowIds();
        rowsAtMost();
        droppedAlong();
        notDropped();
        sumsOfNull();
        towardZero();
        comparisonsWithNull();
        threeWays();
        allPartsAreWorkedOut();
        Bench.finish();
    }

    private static void numbersOfTables() {
        Bench.sentence("TABLES are numbered 0 .. 5, COLUMNS from 0 on .. what is new gets the least number that is free");
        Bench b = new Bench();
        for (int i = 0; i < 6; i++) {
            b.does("table t" + i + " (p, q, r, s, t, u)");
            Bench.is("table t" + i, b.store.find(0, Bench.packed("t" + i)), i);
            for (int column = 0; column < 6; column++) {
                Bench.is("column " + column, b.store.find(3 + i, "pqrstu".charAt(column)), column);
            }
        }
        b.does("drop table t4", "drop table t0", "drop table t5", "table u0 (x)", "table u4 (x)", "table u5 (x)");
        for (String name : new String[] {"u0", "t1", "t2", "t3", "u4", "u5"}) {
            Bench.is(name, b.store.find(0, Bench.packed(name)), name.charAt(1) - '0');
        }
    }

    private static void numbersOfTriggers() {
        Bench.sentence("TRIGGERS 0 .. 7 .. what is new gets the least number that is free");
        Bench b = Bench.with("table a (x)", "table b (x)");
        for (int i = 0; i < 8; i++) {
            b.does("trigger t" + i + " before insert on " + (i % 3 == 0 ? "a" : "b") + " do raise 1");
            Bench.is("trigger t" + i, b.store.find(1, Bench.packed("t" + i)), i);
        }
        b.does("drop table a", "trigger u0 before insert on b do raise 1", "trigger u3 before insert on b do raise 1",
                "trigger u6 before insert on b do raise 1");
        for (String name : new String[] {"u0", "t1", "t2", "u3", "t4", "t5", "u6", "t7"}) {
            Bench.is(name, b.store.find(1, Bench.packed(name)), name.charAt(1) - '0');
        }
    }

    private static void numbersOfRules() {
        Bench.sentence("RULES 0 .. 23: what is new gets the least number that is free; of a table in the order of its items");
        Bench b = Bench.with("table a (x must, unique (x))", "table b (x, unique (x))", "table c (x, unique (x))",
                "drop table a", "table d (x, check x = 1, unique (x), primary (x), y must)");
        int[] kinds = {3, 2, 2, 2, 1, 0};
        int[] tables = {0, 0, 1, 2, 0, 0};
        for (int rule = 0; rule < kinds.length; rule++) {
            Bench.is("kind of rule " + rule, b.store.rule(rule, 0), kinds[rule]);
            Bench.is("table of rule " + rule, b.store.rule(rule, 1), tables[rule]);
        }
        Bench full = Bench.with("table a (x, " + Bench.repeated("unique (x)", 23, ", ") + ", check x = 1)");
        Bench.is("the last rule's kind", full.store.rule(23, 0), 3);
        Bench.noIndex("a rule 24", () -> full.store.rule(24, 0));
        full.breaks(23, 1, "insert a (2)");
    }

    private static void whichItemsHaveARule() {
        Bench.sentence("A column with must has a rule; so has each other item");
        Bench b = Bench.with("table a (x, y default 1)");
        Bench.is("rules of columns alone", b.store.count(1), 0);
        b.does("table b (x must, y default 1 must, z, primary (x), unique (y), check z = 1, refer (z) to b (x))");
        Bench.is("rules", b.store.count(1), 6);
    }

    private static void valuesWrap() {
        Bench.sentence("A VALUE is an int (sums wrap) or NULL");
        Bench.sum(Integer.MAX_VALUE, MOST);
        Bench.sum(Integer.MIN_VALUE, LEAST);
        Bench.sum(Integer.MIN_VALUE, MOST + " + 1");
        Bench.sum(Integer.MAX_VALUE, LEAST + " - 1");
        Bench.sum(-2, MOST + " + " + MOST);
        Bench.sum(0, LEAST + " + " + LEAST);
        Bench.sum(-1, LEAST + " + " + MOST);
        Bench.sum(-1, MOST + " - " + LEAST);
        Bench.sum(Integer.MIN_VALUE, "- " + LEAST);
        Bench.sum(Integer.MIN_VALUE, LEAST + " * - 1");
        Bench.sum(Integer.MIN_VALUE, LEAST + " / - 1");
        Bench.sum(Integer.MIN_VALUE + 1, "- " + MOST);
        Bench.sum(-2, MOST + " * 2");
        Bench.sum(0, LEAST + " * 2");
        Bench.sum(0, LEAST + " * " + LEAST);
        Bench.sum(1, MOST + " * " + MOST);
        Bench.sum(Integer.MIN_VALUE, MOST + " * " + LEAST);
        Bench.sum(808348673, "999999999 * 999999999");
        Bench.sum(0, "65536 * 65536");
        Bench.sum(Integer.MIN_VALUE, "32768 * 65536");
        Bench.sum(0, MOST + " / " + LEAST);
        Bench.sum(-1, LEAST + " / " + MOST);
    }

    private static void storedValuesWrap() {
        Bench.sentence("A VALUE is an int (sums wrap): in where, set, let and check");
        Bench b = Bench.with("table a (x, check x + 1 # 7)", "insert a (" + MOST + ")", "update a set x = x + 1 where x + 1 < 0");
        b.holds("a", "1: " + Integer.MIN_VALUE);
        b.does("update a set x = - x where x = - x and x < 0", "update a set x = x - 1 where x - 1 > 0");
        b.holds("a", "1: " + Integer.MAX_VALUE);
        b.does("trigger t before update on a do let x = new.x * 2", "update a set x = x");
        b.holds("a", "1: -2");
        Bench c = Bench.with("table c (x, check x + 1 > x)", "insert c (" + MOST + " - 1)");
        c.breaks(0, 2, "insert c (" + MOST + ")");
    }

    private static void rowIds() {
        Bench.sentence("A ROW has a ROWID, one more than the latest of its table (1 at first; drop frees it)");
        Bench b = Bench.with("table a (x, check x # 13)", "table b (x)");
        Bench.is("the first", b.store.table(0, 2), 1);
        b.does("insert a (1)", "insert a (2)", "insert b (1)", "delete a where x = 2", "insert a (3)");
        b.holds("a", "1: 1, 3: 3");
        b.does("delete a", "insert a (4)", "update a set x = 5");
        b.holds("a", "4: 5");
        b.breaks(0, 5, "insert a (13)");
        Bench.is("the next behind a broken rule", b.store.table(0, 2), 5);
        b.does("begin", "insert a (6)", "insert a (7)", "back", "insert a (8)");
        b.holds("a", "4: 5, 5: 8");
        b.does("insert b (2)");
        b.holds("b", "1: 1, 2: 2");
        b.does("drop table a", "table c (x)", "insert c (1)");
        b.holds("c", "1: 1");
        Bench.is("the number of the next one's", b.store.table(0, 2), 2);
        Bench.is("of the other table", b.store.table(1, 2), 3);
    }

    private static void rowsAtMost() {
        Bench.sentence("a table has 40 at most");
        Bench b = Bench.with("table a (x)", "table b (x)", "table c (x)", "table d (x)", "table e (x)", "table f (x)");
        for (String table : new String[] {"b", "c", "d", "e", "f"}) {
            b.does("trigger " + table + " after insert on a do insert " + table + " (new.x)");
        }
        for (int i = 1; i <= 40; i++) {
            b.does("insert a (" + i + ")");
        }
        for (int table = 0; table < 6; table++) {
            Bench.is("rows of table " + table, b.store.table(table, 1), 40);
            Bench.is("the last row of table " + table, b.store.value(table, 39, 0), 40);
            Bench.is("the first row of table " + table, b.store.value(table, 0, 0), 1);
        }
        for (String table : new String[] {"a", "b", "f"}) {
            b.ends(6, "insert " + table + " (41)");
        }
        b.does("delete a");
        b.ends(6, "insert a (41)");
        b.steps(2, 2);
        Bench.is("rows of the first table", b.store.table(0, 1), 0);
        b.does("delete f where x = 40");
        b.ends(6, "insert a (41)");
        b.does("insert f (42)");
        Bench.is("the last row", b.store.value(5, 39, 0), 42);
        Bench.is("its ROWID", b.store.value(5, 39, CascadeStore.NONE), 41);
    }

    private static void droppedAlong() {
        Bench.sentence("A table that is dropped takes its rules and triggers along");
        Bench b = Bench.with("table a (x, check x = 1)", "table b (x must, unique (x), check x > 0)",
                "trigger t before insert on b do insert a (1)", "trigger s before insert on a do raise 1",
                "trigger r after delete on b do delete b", "drop table b");
        Bench.is("tables", b.store.count(0), 1);
        Bench.is("rules", b.store.count(1), 1);
        Bench.is("triggers", b.store.count(2), 1);
        Bench.is("nodes", b.store.count(4), 3);
        Bench.is("the trigger that stays", b.store.find(1, 's'), 1);
        Bench.noIndex("a rule that went", () -> b.store.rule(1, 0));
        Bench.noIndex("a trigger that went", () -> b.store.trigger(0, 0));
        b.does("table b (x)", "insert b (null)");
        b.holds("b", "1: null");
    }

    private static void notDropped() {
        Bench.sentence("It can't be dropped if a rule of another one refers to it, or a trigger of another one changes it");
        Bench b = Bench.with("table z (x must)", "table a (x, unique (x), refer (x) to a (x))", "drop table z",
                "table b (y, refer (y) to a (x))", "trigger t after insert on a do update a set x = 1");
        Bench.is("the rule that refers", b.store.rule(0, 3), 1);
        b.ends(7, "drop table a");
        b.does("insert b (null)");
        b.ends(7, "drop table a");
        Bench.is("tables", b.store.count(0), 2);
        b.does("drop table b", "drop table a");
        for (String act : new String[] {"insert a (1)", "update a set x = 1", "delete a"}) {
            for (String head : new String[] {"before insert", "after delete"}) {
                Bench c = Bench.with("table a (x)", "table b (x)", "trigger t " + head + " on b do " + act);
                c.ends(7, "drop table a");
                Bench.is("told of what can't be done", c.store.told(0), CascadeStore.NONE);
                c.does("drop trigger t", "drop table a");
                Bench d = Bench.with("table b (x)", "table a (x)", "trigger t " + head + " on b do " + act, "drop table b",
                        "drop table a");
                Bench.is("tables", d.store.count(0), 0);
            }
        }
        b.does("table a (x)", "table b (x)", "trigger s before insert on b do let x = 1", "trigger r before insert on b do raise 1");
        b.does("drop table a", "drop table b");
    }

    private static void sumsOfNull() {
        Bench.sentence("SUMS are NULL if one of two is (- of NULL too)");
        for (String sign : new String[] {"+", "-", "*", "/"}) {
            Bench.sum(CascadeStore.NULL, "null " + sign + " 3");
            Bench.sum(CascadeStore.NULL, "3 " + sign + " null");
            Bench.sum(CascadeStore.NULL, "0 " + sign + " null");
            Bench.sum(CascadeStore.NULL, "null " + sign + " null");
            Bench.sum(CascadeStore.NULL, "null " + sign + " 0");
        }
        Bench.sum(CascadeStore.NULL, "- null");
        Bench.sum(CascadeStore.NULL, "1 + 2 * - (null)");
    }

    private static void towardZero() {
        Bench.sentence("/ toward 0");
        Bench.sum(3, "7 / 2");
        Bench.sum(-3, "- 7 / 2");
        Bench.sum(-3, "7 / - 2");
        Bench.sum(3, "- 7 / - 2");
        Bench.sum(0, "1 / 2");
        Bench.sum(0, "- 1 / 2");
        Bench.sum(0, "0 / - 5");
        Bench.sum(-1, "- 5 / 5");
        Bench.sum(-1073741824, LEAST + " / 2");
    }

    private static void comparisonsWithNull() {
        Bench.sentence("a comparison with a NULL is open");
        for (String sign : new String[] {"=", "#", "<", "<=", ">", ">="}) {
            Bench.is("null on the left of " + sign, Bench.way("null " + sign + " x"), 2);
            Bench.is("null on the right of " + sign, Bench.way("x " + sign + " null"), 2);
            Bench.is("null on both sides of " + sign, Bench.way("null " + sign + " null"), 2);
            Bench.is("not of open " + sign, Bench.way("not x " + sign + " null"), 2);
        }
        Bench.sentence("is null, is some: yes or no");
        Bench.is("null is null", Bench.way("null is null"), 1);
        Bench.is("null is some", Bench.way("null is some"), 0);
        Bench.is("0 is null", Bench.way("0 is null"), 0);
        Bench.is("0 is some", Bench.way("0 is some"), 1);
        Bench.is("a sum with null", Bench.way("1 + null is null"), 1);
    }

    private static void threeWays() {
        Bench.sentence("and is no if one is no, else open if one is; or is yes if one is yes, else open if one is");
        String[] ways = {"x = 0", "x = 1", "x = null"};
        int[] and = {0, 0, 0, 0, 1, 2, 0, 2, 2};
        int[] or = {0, 1, 2, 1, 1, 1, 2, 1, 2};
        for (int i = 0; i < 9; i++) {
            String left = ways[i / 3];
            String right = ways[i % 3];
            Bench.is(left + " and " + right, Bench.way(left + " and " + right), and[i]);
            Bench.is(left + " or " + right, Bench.way(left + " or " + right), or[i]);
            for (int j = 0; j < 3; j++) {
                int both = and[i % 3 * 3 + j];
                Bench.is("or before and", Bench.way(left + " or " + right + " and " + ways[j]), or[i / 3 * 3 + both]);
                both = and[i];
                Bench.is("and before or", Bench.way(left + " and " + right + " or " + ways[j]), or[both * 3 + j]);
            }
        }
    }

    private static void allPartsAreWorkedOut() {
        Bench.sentence("all parts are worked out");
        Bench b = Bench.with("table a (x)", "insert a (1)");
        b.ends(4, "delete a where x = 1 or 1 / 0 = 1");
        b.ends(4, "delete a where 1 / 0 = 1 or x = 1");
        b.ends(4, "delete a where x = 0 and 1 / 0 = 1");
        b.ends(4, "delete a where x = null and 1 / 0 = null");
        b.ends(4, "update a set x = 0 * (1 / 0)");
        b.ends(4, "update a set x = null + 1 / 0");
        b.ends(4, "delete a where 1 / 0 is null");
        b.ends(4, "delete a where not [x = 1 or x / (x - 1) = 1]");
        b.holds("a", "1: 1");
        b.does("trigger t before insert on a when new.x = 5 or 1 / new.x = 7 do raise 3");
        b.ends(4, "insert a (0)");
        b.raises(3, "insert a (5)");
    }
}
