/** Section 1 TEXTS: the edges of the tape and of its tokens, a method for each sentence that names one. */
final class EdgesOfTokensTest {
    private static final String[] WORDS = ("after all and back before begin cascade check commit default delete do drop insert "
            + "is late let mark must new not now null old on or primary raise refer set some stop table to trigger unique "
            + "update when where").split(" ");
    private static final String SIGNS = "()[],.=#<>+-*/";

    public static void main(String[] args) {
        tape();
        bytesThatBeginATape();
        bytesBehindAWord();
        longestTokens();
        blanks();
        names();
        namesThatAreTooLong();
        words();
        numbers();
        numbersThatAreTooLong();
        signs();
        Bench.finish();
    }

    private static void tape() {
        Bench.sentence("THE TAPE has at most 600 bytes");
        Bench b = Bench.with("table a (x)");
        b.does("insert a (1)" + " ".repeat(588));
        b.does(" ".repeat(588) + "insert a (2)");
        b.does("insert a (" + "0+".repeat(294) + "3)");
        b.holds("a", "1: 1, 2: 2, 3: 3");
        b.fault(1, " ".repeat(599) + "^!");
        b.fault(2, " ".repeat(599) + "^x");
        b.fault(2, "delete a" + " ".repeat(591) + "^,");
        b.fault(2, "insert a (" + "0+".repeat(295) + "^");
        b.feed("delete a" + " ".repeat(592));
        Bench.refused("a 601st byte", IllegalStateException.class, () -> b.store.feed('x', 1));
        Bench.is("the tape without it", b.store.run(), 0);
        b.holds("a", "");
    }

    private static void bytesThatBeginATape() {
        Bench.sentence("1 a byte that begins no token");
        for (int code = 0; code < 256; code++) {
            Bench b = new Bench();
            b.store.feed(code, 1);
            Bench.is("byte " + code, b.store.run(), 1);
            Bench.is("fault of byte " + code, b.store.told(0), isBlank(code) || beginsToken(code) ? 2 : 1);
            Bench.is("place of byte " + code, b.store.told(1), isBlank(code) ? 1 : 0);
        }
    }

    private static void bytesBehindAWord() {
        Bench.sentence("1 a byte that begins no token .. 2 a token that can't stand there");
        for (int code = 0; code < 256; code++) {
            Bench b = new Bench();
            b.feed("begin");
            b.store.feed(code, 1);
            int end = b.store.run();
            String due = "1, 1 at 5";
            if (isBlank(code)) {
                due = "0, -1 at -1";
            } else if (isLetterOrFigure(code)) {
                due = "1, 2 at 0";
            } else if (beginsToken(code)) {
                due = "1, 2 at 5";
            }
            Bench.isText("begin and byte " + code, end + ", " + b.store.told(0) + " at " + b.store.told(1), due);
        }
    }

    private static boolean isBlank(int code) {
        return code == 32 || code == 10;
    }

    private static boolean isLetterOrFigure(int code) {
        return code >= 'a' && code <= 'z' || code >= '0' && code <= '9';
    }

    private static boolean beginsToken(int code) {
        return isLetterOrFigure(code) || SIGNS.indexOf((char) code) >= 0;
    }

    private static void longestTokens() {
        Bench.sentence("TOKENS, as long as may be");
        Bench b = Bench.with("table a (x, y)", "insert a (1, 2)");
        b.does("delete a where x>=2", "delete a where x<=0", "delete a where x>y");
        b.fault(2, "delete a where x < ^= 1");
        b.fault(2, "delete a where x > ^= 1");
        b.fault(2, "delete a where x <=^= 1");
        b.fault(2, "delete a where x <^> 1");
        b.fault(2, "delete a where x =^< 1");
        b.fault(2, "^deletea");
        b.fault(2, "^delete1 a");
        b.fault(4, "delete ^a2");
        b.fault(2, "insert a (12 ^3, 4)");
        b.does("insert a (12,34)");
        b.holds("a", "1: 1 2, 2: 12 34");
    }

    private static void blanks() {
        Bench.sentence("with BLANKS (32, 10) between where needed");
        Bench b = Bench.with("table a(x,y default-7must,primary(x))");
        b.does("\n \ninsert\n\na\n(\n1\n,\ndefault\n)\n", "  insert  a  (  2  ,  -  3  )  ", "update a set y=y-1where x=1or x=2and y<0");
        b.holds("a", "1: 1 -8, 2: 2 -4");
        b.fault(2, "^tableb(x)");
        b.fault(2, "table b(x ^default7)");
        b.fault(2, "table b(x ^defaul)");
        b.fault(1, "insert a^\t(3,4)");
        b.fault(1, "insert a^\r\n(3,4)");
        b.fault(1, "insert a^\u00a0(3,4)");
        b.fault(1, "insert a^\u0000(3,4)");
    }

    private static void names() {
        Bench.sentence("NAMES, a letter a .. z, then letters and figures, 8 at most");
        for (String name : new String[] {"a", "z", "a0", "z9", "abcdefgh", "a1234567", "z9z9z9z9"}) {
            Bench b = Bench.with("table " + name + " (" + name + ")", "trigger " + name + " before insert on " + name + " do let "
                    + name + " = new." + name + " + 1", "insert " + name + " (1)", "begin", "mark " + name, "back to " + name);
            b.holds(name, "1: 2");
            Bench.is(name + " as a table", b.store.table(0, 3), Bench.packed(name));
            Bench.is(name + " as a column", b.store.table(0, 4), Bench.packed(name));
            Bench.is(name + " as a trigger", b.store.trigger(0, 5), Bench.packed(name));
            Bench.is(name + " as a mark", b.store.find(2, Bench.packed(name)), 0);
        }
        Bench b = new Bench();
        b.fault(2, "table ^9a (x)");
        b.fault(1, "table ^A (x)");
        b.fault(1, "table a^B (x)");
        b.fault(1, "table a^_b (x)");
        b.fault(1, "table ^` (x)");
        b.fault(1, "table ^{ (x)");
        b.fault(1, "table a^: (x)");
        b.fault(2, "table a^/ (x)");
    }

    private static void namesThatAreTooLong() {
        Bench.sentence("1 .. a NAME .. that is too long (at its first byte)");
        Bench b = Bench.with("table a (x)");
        b.fault(1, "table ^abcdefghi (x)");
        b.fault(1, "table ^a12345678 (x)");
        b.fault(1, "table b (^abcdefghi)");
        b.fault(1, "delete ^aaaaaaaaa");
        b.fault(1, "trigger ^ttttttttt before insert on a do raise 1");
        b.fault(1, "trigger t before insert on a when new.^xxxxxxxxx = 1 do raise 1");
        b.fault(1, "mark ^mmmmmmmmm");
        b.fault(1, "back to ^mmmmmmmmm");
        b.fault(1, "^tabletable a (x)");
        b.fault(1, "insert a (1) ^" + "z".repeat(587));
        b.fault(1, "table ^abcdefgh9x (x)");
    }

    private static void words() {
        Bench.sentence("of which these are WORDS (no NAMES)");
        Bench.is("words", WORDS.length, 39);
        for (String word : WORDS) {
            Bench b = Bench.with("begin");
            b.fault(2, "table ^" + word + " (x)");
            b.fault(2, "mark ^" + word);
            b.does("mark " + word.substring(0, word.length() - 1), "mark " + word + "0");
            if (word.length() < 8) {
                b.does("mark " + word + "z", "mark z" + word);
            }
        }
    }

    private static void numbers() {
        Bench.sentence("NUMBERS, 1 to 9 figures");
        Bench b = Bench.with("table a (x default 999999999, y default - 999999999)", "insert a (default, default)",
                "insert a (0, 000000000)", "insert a (9, 000000001)", "insert a (999999999, - 999999999)", "delete a where x = 9");
        b.holds("a", "1: 999999999 -999999999, 2: 0 0, 4: 999999999 -999999999");
        b.does("trigger t before delete on a do raise 000000000");
        b.raises(0, "delete a");
        b.does("drop trigger t", "trigger t before delete on a do raise 999999999");
        b.raises(999999999, "delete a");
    }

    private static void numbersThatAreTooLong() {
        Bench.sentence("1 .. a .. NUMBER that is too long (at its first byte)");
        Bench b = Bench.with("table a (x, check x = 0 late)");
        b.fault(1, "insert a (^1000000000)");
        b.fault(1, "insert a (-^0000000000)");
        b.fault(1, "table b (x default ^0000000001)");
        b.fault(1, "trigger t before insert on a do raise ^1234567890");
        b.fault(1, "late ^0000000000");
        b.fault(1, "now 0, ^0000000000");
        b.fault(1, "insert a (^" + "1".repeat(580) + ")");
        b.fault(1, "insert a (^1234567890x)");
        b.fault(2, "insert a (123456789^x)");
    }

    private static void signs() {
        Bench.sentence("SIGNS ( ) [ ] , . = # < <= > >= + - * /");
        Bench b = Bench.with("table a (x)", "insert a (6)");
        b.does("update a set x=(x+1)*2-8/4 where[x=6]and x#7and x<7and x<=6and x>5and x>=6");
        b.holds("a", "1: 12");
        for (String none : new String[] {"!", "\"", "$", "%", "&", "'", ":", ";", "?", "@", "\\", "^", "_", "{", "|", "}", "~"}) {
            b.feed("delete a where x = 1 " + none);
            Bench.is(none, b.store.run(), 1);
            Bench.isText("the fault of " + none, b.store.told(0) + " at " + b.store.told(1), "1 at 21");
        }
    }
}
