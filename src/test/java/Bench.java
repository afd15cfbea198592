/** What the tests share: a store that is spoken to in texts, and the number of answers that were not as due. */
final class Bench {
    private static int wrong = 0;
    private static String sentence = "";

    final CascadeStore store = new CascadeStore();

    /** A new store on which these statements have been done. */
    static Bench with(String... statements) {
        Bench bench = new Bench();
        bench.does(statements);
        return bench;
    }

    static void finish() {
        if (wrong > 0) {
            System.out.println(wrong + " answers are not as due");
            System.exit(1);
        }
    }

    /** The words of the document that the tests from here on hold it to. */
    static void sentence(String words) {
        sentence = "[" + words + "] ";
    }

    static void is(String what, long got, long want) {
        if (got != want) {
            complain(what, shown(got), shown(want));
        }
    }

    static void isText(String what, String got, String want) {
        if (!got.equals(want)) {
            complain(what, got, want);
        }
    }

    /** The call must throw just this class. */
    static void refused(String what, Class<?> due, Runnable call) {
        String got = "nothing";
        try {
            call.run();
        } catch (RuntimeException thrown) {
            got = thrown.getClass().getSimpleName();
        }
        isText(what + " throws", got, due.getSimpleName());
    }

    static void noIndex(String what, Runnable call) {
        refused(what, IndexOutOfBoundsException.class, call);
    }

    static void noArgument(String what, Runnable call) {
        refused(what, IllegalArgumentException.class, call);
    }

    static long packed(String name) {
        long letters = 0;
        for (int i = 0; i < name.length(); i++) {
            letters = letters << 8 | name.charAt(i) & 255;
        }
        return letters;
    }

    static String repeated(String text, int times, String between) {
        StringBuilder all = new StringBuilder();
        for (int i = 0; i < times; i++) {
            all.append(i == 0 ? "" : between).append(text);
        }
        return all.toString();
    }

    /** What an inserted SUM is worked out to. */
    static void sum(long due, String sum) {
        Bench bench = with("table a (x)");
        bench.does("insert a (" + sum + ")");
        is(sum, bench.store.value(0, 0, 0), due);
    }

    /** Whether a TEST of a row whose x is 1 is yes (1), no (0) or open (2). */
    static int way(String test) {
        Bench bench = with("table a (x)", "insert a (1)");
        bench.does("delete a where " + test);
        boolean isYes = bench.store.table(0, 1) == 0;
        bench.say("insert a (1)");
        bench.does("delete a where not [" + test + "]");
        return isYes ? 1 : bench.store.table(0, 1) == 0 ? 0 : 2;
    }

    void feed(String text) {
        for (int at = 0; at < text.length(); at += 8) {
            String part = text.substring(at, Math.min(at + 8, text.length()));
            store.feed(packed(part), part.length());
        }
    }

    int say(String text) {
        feed(text);
        return store.run();
    }

    void does(String... statements) {
        for (String statement : statements) {
            ends(0, statement);
        }
    }

    void ends(int due, String statement) {
        is(statement, say(statement), due);
    }

    /** The fault is due where ^ stands in the text. */
    void fault(int code, String marked) {
        String text = marked.replace("^", "");
        String due = "1, " + code + " at " + marked.indexOf('^');
        int end = say(text);
        isText("'" + marked + "'", end + ", " + store.told(0) + " at " + store.told(1), due);
    }

    void breaks(int rule, int row, String statement) {
        int end = say(statement);
        isText(statement, end + ", rule " + store.told(2) + ", row " + store.told(3), "2, rule " + rule + ", row " + row);
    }

    void raises(int number, String statement) {
        int end = say(statement);
        isText(statement, end + ", " + store.told(4), "3, " + number);
    }

    void steps(int begun, int deepest) {
        isText("steps", store.told(5) + " in " + store.told(6), begun + " in " + deepest);
    }

    /** The rows of a table, each as its ROWID and its values: "1: 5 null, 2: 6 7". */
    void holds(String table, String due) {
        isText(table, rowsOf(store.find(0, packed(table))), due);
    }

    String rowsOf(int table) {
        StringBuilder all = new StringBuilder();
        for (int k = 0; k < store.table(table, 1); k++) {
            all.append(k == 0 ? "" : ", ").append(store.value(table, k, CascadeStore.NONE)).append(':');
            for (int column = 0; column < store.table(table, 0); column++) {
                all.append(' ').append(shown(store.value(table, k, column)));
            }
        }
        return all.toString();
    }

    /** All that can be asked of the store, but for what is told of the latest run. */
    String state() {
        StringBuilder all = new StringBuilder();
        for (int what = 0; what <= 6; what++) {
            all.append(store.count(what)).append(' ');
        }
        for (int table = 0; table < 6; table++) {
            all.append(tableState(table));
        }
        for (int rule = 0; rule < 24; rule++) {
            all.append(ruleState(rule));
        }
        for (int trigger = 0; trigger < 8; trigger++) {
            all.append(triggerState(trigger));
        }
        return all.toString();
    }

    private String tableState(int table) {
        StringBuilder all = new StringBuilder("\ntable " + table + " ");
        try {
            for (int what = 0; what < 4 + store.table(table, 0); what++) {
                all.append(store.table(table, what)).append(' ');
            }
            return all.append(rowsOf(table)).toString();
        } catch (IndexOutOfBoundsException none) {
            return "";
        }
    }

    private String ruleState(int rule) {
        StringBuilder all = new StringBuilder("\nrule " + rule + " ");
        try {
            for (int what = 0; what <= 7; what++) {
                all.append(store.rule(rule, what)).append(' ');
            }
            return all.append(store.broken(rule)).toString();
        } catch (IndexOutOfBoundsException none) {
            return "";
        }
    }

    private String triggerState(int trigger) {
        StringBuilder all = new StringBuilder("\ntrigger " + trigger + " ");
        try {
            for (int what = 0; what <= 5; what++) {
                all.append(store.trigger(trigger, what)).append(' ');
            }
            return all.toString();
        } catch (IndexOutOfBoundsException none) {
            return "";
        }
    }

    private static String shown(long value) {
        return value == CascadeStore.NULL ? "null" : String.valueOf(value);
    }

    private static void complain(String what, String got, String want) {
        wrong++;
        System.out.println(sentence + what + ": answered " + got + ", due is " + want);
    }
}
