/** Promises 4 to 6: told, count and find. */
final class AnswersTest {
    public static void main(String[] args) {
        told();
        toldOfOthers();
        counts();
        finds();
        Bench.finish();
    }

    private static void tells(Bench b, int... due) {
        for (int what = 0; what < due.length; what++) {
            Bench.is("told(" + what + ")", b.store.told(what), due[what]);
        }
    }

    private static void told() {
        Bench b = Bench.with("table a (x, check x < 9)");
        tells(b, -1, -1, -1, -1, -1, 0, 0, 0);
        b.say("insert a (1");
        tells(b, 2, 11, -1, -1, -1, 0, 0, 0);
        b.say("insert a (1)");
        tells(b, -1, -1, -1, -1, -1, 1, 1, 1);
        b.say("insert a (9)");
        tells(b, -1, -1, 0, 2, -1, 1, 1, 0);
        b.say("insert a (1 / 0)");
        tells(b, -1, -1, -1, -1, -1, 0, 0, 0);
        b.say("commit");
        tells(b, -1, -1, -1, -1, -1, 0, 0, 0);
        b.say("trigger t after insert on a when new.x > 1 do raise 5");
        b.say("trigger s after insert on a do insert a (new.x + 1)");
        b.say("insert a (1)");
        tells(b, -1, -1, -1, -1, 5, 2, 2, 0);
        b.say("drop trigger t");
        b.say("insert a (1)");
        tells(b, -1, -1, -1, -1, -1, 12, 12, 0);
        for (int what : new int[] {-1, 8, Integer.MAX_VALUE, Integer.MIN_VALUE}) {
            Bench.noArgument("told(" + what + ")", () -> b.store.told(what));
        }
    }

    private static void toldOfOthers() {
        Bench b = Bench.with("table a (x)", "insert a (1)", "insert a (2)");
        b.store.feed('x', 1);
        tells(b, -1, -1, -1, -1, -1, 1, 1, 1);
        b.store.run();
        tells(b, 2, 0, -1, -1, -1, 0, 0, 0);
        b.say("begin");
        b.say("delete a");
        tells(b, -1, -1, -1, -1, -1, 2, 1, -2);
        b.say("back");
        tells(b, -1, -1, -1, -1, -1, 0, 0, 2);
        b.say("drop table a");
        tells(b, -1, -1, -1, -1, -1, 0, 0, -2);
    }

    private static void counts(Bench b, int... due) {
        for (int what = 0; what < due.length; what++) {
            Bench.is("count(" + what + ")", b.store.count(what), due[what]);
        }
    }

    private static void counts() {
        Bench b = Bench.with("table a (x must, primary (x), check x = 1)", "table b (y, refer (y) to a (x))");
        counts(b, 2, 4, 0, 0, 3, 0, 0);
        b.does("trigger t after insert on b when new.y = 1 do delete b where y = 2", "begin", "mark m", "mark n");
        counts(b, 2, 4, 1, 2, 9, 1, 0);
        b.feed("commit");
        counts(b, 2, 4, 1, 2, 9, 1, 6);
        b.store.run();
        counts(b, 2, 4, 1, 0, 9, 0, 0);
        b.does("drop table b");
        counts(b, 1, 3, 0, 0, 3, 0, 0);
        for (int what : new int[] {-1, 7, Integer.MAX_VALUE, Integer.MIN_VALUE}) {
            Bench.noArgument("count(" + what + ")", () -> b.store.count(what));
        }
    }

    private static void finds() {
        Bench b = Bench.with("table a (x, abcdefgh)", "table b2 (y)", "table c (x)", "trigger a after insert on c do raise 1",
                "trigger z9 after insert on a do raise 1", "begin", "mark m", "mark nn");
        CascadeStore s = b.store;
        Bench.is("table a", s.find(0, 'a'), 0);
        Bench.is("table b2", s.find(0, Bench.packed("b2")), 1);
        Bench.is("table 2b", s.find(0, Bench.packed("2b")), -1);
        Bench.is("table z9", s.find(0, Bench.packed("z9")), -1);
        Bench.is("trigger a", s.find(1, 'a'), 0);
        Bench.is("trigger z9", s.find(1, Bench.packed("z9")), 1);
        Bench.is("trigger c", s.find(1, 'c'), -1);
        Bench.is("mark m", s.find(2, 'm'), 0);
        Bench.is("mark nn", s.find(2, Bench.packed("nn")), 1);
        Bench.is("mark n", s.find(2, 'n'), -1);
        Bench.is("column x of a", s.find(3, 'x'), 0);
        Bench.is("column of eight letters", s.find(3, Bench.packed("abcdefgh")), 1);
        Bench.is("column y of a", s.find(3, 'y'), -1);
        Bench.is("column y of b2", s.find(4, 'y'), 0);
        Bench.is("column x of c", s.find(5, 'x'), 0);
        Bench.is("column x of no table", s.find(8, 'x'), -1);
        for (int kind = 0; kind <= 8; kind++) {
            Bench.is("no name, kind " + kind, s.find(kind, 0), -1);
            Bench.is("not a name, kind " + kind, s.find(kind, -1), -1);
        }
        for (int kind : new int[] {-1, 9, Integer.MAX_VALUE, Integer.MIN_VALUE}) {
            Bench.noArgument("find(" + kind + ")", () -> s.find(kind, 'a'));
        }
        b.does("back", "drop table a");
        Bench.is("table a", s.find(0, 'a'), -1);
        Bench.is("column x of a", s.find(3, 'x'), -1);
        Bench.is("trigger of a", s.find(1, Bench.packed("z9")), -1);
        Bench.is("mark m", s.find(2, 'm'), -1);
        Bench.is("table c", s.find(0, 'c'), 2);
    }
}
