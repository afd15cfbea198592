import java.util.Random;

/** All promises: whatever is called, just the exceptions of the document come, and what fails leaves all as before. */
final class NoSurpriseTest {
    private static final String[] PIECES = {
        "after", "all", "and", "back", "before", "begin", "cascade", "check", "commit", "default", "delete", "do", "drop",
        "insert", "is", "late", "let", "mark", "must", "new", "not", "now", "null", "old", "on", "or", "primary", "raise",
        "refer", "set", "some", "stop", "table", "to", "trigger", "unique", "update", "when", "where",
        "(", ")", "[", "]", ",", ".", "=", "#", "<", "<=", ">", ">=", "+", "-", "*", "/",
        "a", "b", "c", "x", "y", "0", "1", "2", "999999999", "\n", "!", "abcdefghi", "1234567890"};

    private static final String[] STATEMENTS = {
        "table a (x, y default - 1, primary (x) late, check x < 50)",
        "table b (x must, y, unique (x, y), refer (y) to a (x) delete cascade update cascade late)",
        "table c (x, unique (x), refer (x) to a (x) delete null update default)",
        "trigger t before insert on a when new.y > 2 do let x = new.x + 1",
        "trigger s after insert on b when new.x < 3 do insert c (new.x)",
        "trigger r after delete on a do update b set x = x / old.y where y is some",
        "trigger q before update on c when old.x = 4 do raise 44",
        "insert a (1, default)", "insert a (2, 3)", "insert a (3, 1)", "insert b (1, 2)", "insert b (2, null)",
        "insert b (9, 7)", "insert c (null)", "insert c (3)", "insert a (null, 0)",
        "update a set x = x + 1", "update a set x = y, y = x where x < 3", "update b set y = x", "update c set x = 1 / x",
        "delete a where x = 2", "delete b where not [x = 1 or y is null]", "delete c", "begin", "mark m", "mark n", "mark o",
        "back to m", "back to n", "late all", "now all", "now 2", "late 0", "commit", "back", "drop trigger t",
        "drop table c", "drop table a", "insert a (1", "update a set", "delete a where x"};

    public static void main(String[] args) {
        Random random = new Random(20261115);
        for (int i = 0; i < 300; i++) {
            randomCalls(random);
            randomStatements(random);
        }
        Bench.finish();
    }

    private static void randomStatements(Random random) {
        Bench b = new Bench();
        for (int i = 0; i < 7; i++) {
            b.say(STATEMENTS[i]);
        }
        for (int i = 0; i < 60; i++) {
            String statement = STATEMENTS[random.nextInt(STATEMENTS.length)];
            String before = b.state();
            int end = b.say(statement);
            boolean changesAnyway = end == 0 || statement.equals("commit") && end == 2;
            if (!changesAnyway) {
                Bench.isText("state after " + statement + " that ended with " + end, b.state(), before);
                Bench.is("rows more after " + statement, b.store.told(7), 0);
            }
            Bench.is("a fault is told of 1 alone", b.store.told(0) != -1 ? 1 : 0, end == 1 ? 1 : 0);
            Bench.is("a rule is told of 2 alone", b.store.told(2) != -1 ? 1 : 0, end == 2 ? 1 : 0);
            Bench.is("a number is told of 3 alone", b.store.told(4) != -1 ? 1 : 0, end == 3 ? 1 : 0);
            if (b.store.count(5) == 0) {
                noneIsBroken(b, statement);
            }
        }
    }

    private static void noneIsBroken(Bench b, String statement) {
        for (int rule = 0; rule < 24; rule++) {
            try {
                Bench.is("broken(" + rule + ") after " + statement, b.store.broken(rule), -1);
            } catch (IndexOutOfBoundsException none) {
                continue;
            }
        }
    }

    private static void randomCalls(Random random) {
        CascadeStore store = new CascadeStore();
        for (int i = 0; i < 100; i++) {
            String text = random.nextInt(3) == 0 ? STATEMENTS[random.nextInt(STATEMENTS.length)] : randomText(random);
            for (int at = 0; at < text.length(); at += 8) {
                String part = text.substring(at, Math.min(at + 8, text.length()));
                call(store, 0, part.length(), 0, Bench.packed(part));
            }
            if (random.nextInt(5) > 0) {
                store.run();
            }
            for (int j = 0; j < 5; j++) {
                call(store, random.nextInt(11), number(random), number(random), random.nextLong());
            }
        }
    }

    private static String randomText(Random random) {
        StringBuilder text = new StringBuilder();
        int pieces = random.nextInt(14);
        for (int i = 0; i < pieces; i++) {
            text.append(PIECES[random.nextInt(PIECES.length)]).append(random.nextInt(4) == 0 ? "" : " ");
        }
        if (random.nextInt(20) == 0) {
            text.append((char) random.nextInt(256));
        }
        return text.toString();
    }

    private static int number(Random random) {
        int[] edges = {Integer.MIN_VALUE, Integer.MAX_VALUE, -2, -1, 24, 40, 41};
        return random.nextInt(4) == 0 ? edges[random.nextInt(edges.length)] : random.nextInt(10);
    }

    private static void call(CascadeStore store, int which, int one, int two, long name) {
        boolean mayBeIndex = which >= 4 && which <= 8;
        boolean mayBeArgument = which <= 4 || which == 6 || which == 7;
        try {
            switch (which) {
                case 0: store.feed(name, one); break;
                case 1: store.told(one); break;
                case 2: store.count(one); break;
                case 3: store.find(one, name); break;
                case 4: store.table(one, two); break;
                case 5: store.value(one, two, (int) name & 7); break;
                case 6: store.rule(one, two); break;
                case 7: store.trigger(one, two); break;
                case 8: store.broken(one); break;
                default: store.run(); break;
            }
        } catch (IndexOutOfBoundsException thrown) {
            Bench.is("IndexOutOfBounds of call " + which, mayBeIndex && isOwn(thrown) ? 1 : 0, 1);
        } catch (IllegalArgumentException thrown) {
            Bench.is("IllegalArgument of call " + which, mayBeArgument && isOwn(thrown) ? 1 : 0, 1);
        } catch (IllegalStateException thrown) {
            Bench.is("IllegalState of call " + which, which == 0 ? 1 : 0, 1);
        }
    }

    /** Thrown by the class itself, not by the machine or by the library. */
    private static boolean isOwn(RuntimeException thrown) {
        StackTraceElement[] trace = thrown.getStackTrace();
        boolean exact = thrown.getClass() == IndexOutOfBoundsException.class
                || thrown.getClass() == IllegalArgumentException.class;
        return exact && trace.length > 0 && trace[0].getClassName().equals("CascadeStore");
    }
}
