/** Promises 1 to 7: a new object, the input buffer, the text and its errors, names. */
public final class InputTest {
    private static final String A = "line a cap 4 marks 1 3 share 2;";

    public static void main(String[] args) {
        newObject();
        append();
        truncate();
        loadFillsEverything();
        loadStartsOver();
        loadBehindQuestions();
        loadBehindIdleTicks();
        loadOfFewerLines();
        loadForgetsTheTextBefore();
        loadThatFailsKeepsAll();
        tokens();
        misplacedTokens();
        otherKeywords();
        numbersOutOfRange();
        names();
        tooMany();
        smallestCode();
        find();
        Check.finish();
    }

    private static void newObject() {
        EchoLine x = new EchoLine();
        int[] properties = {1, 0, 0, 0, 1, 0, 0, 0, 0, 0, 0};
        for (int what = 0; what < properties.length; what++) {
            Check.is("property(" + what + ") of a new object", x.property(what), properties[what]);
        }
        int[] numbers = {10, 2, 8, 1, 0, 0, 0, 0, 0, EchoLine.NONE, 0};
        for (int what = 0; what < numbers.length; what++) {
            Check.is("line(0, " + what + ") of a new object", x.line(0, what), numbers[what]);
        }
        for (int what = 0; what <= 11; what++) {
            Check.is("count(0, " + what + ") of a new object", x.count(0, what), 0);
        }
        Check.is("errorCode", x.errorCode(), 0);
        Check.is("errorPosition", x.errorPosition(), EchoLine.NONE);
        Check.is("undoCount", x.undoCount(), 0);
        Check.is("delivered", x.delivered(0), EchoLine.NONE);
        Check.raises("outputByte(0)", java.util.NoSuchElementException.class, () -> x.outputByte(0));
        Check.raisesArgument("truncate(1)", () -> x.truncate(1));
        Check.raisesState("restore(0)", () -> x.restore(0));
        Check.raisesState("restore(1)", () -> x.restore(1));
        Check.raisesState("undo()", x::undo);
        Check.raisesIndex("logged(0, 0)", () -> x.logged(0, 0));
        Check.is("queues", Check.output(x, x.writeQueues()), ":0/0");
    }

    private static void append() {
        EchoLine x = new EchoLine();
        for (int i = 1; i <= 20; i++) {
            Check.is("append number " + i, x.append(1, 2, 3, 4, 5), 20 * i);
        }
        Check.raisesState("append to 400 bytes", () -> x.append(1, 2, 3, 4, 5));
        x.truncate(381);
        Check.raisesState("append to 381 bytes", () -> x.append(1, 2, 3, 4, 5));
        x.truncate(380);
        Check.is("append to 380 bytes", x.append(1, 2, 3, 4, 5), 400);
        Check.is("load of no text", x.load(), EchoLine.PARSE_ERROR);
        Check.is("append behind a load", x.append(0x6c696e65, 0x20612063, 0x61702034, 0x206d6172, 0x6b732030), 20);
        Check.is("append the rest", x.append(0x20312073, 0x68617265, 0x2033203b, 0x20202020, 0x20202020), 40);
        Check.is("load", x.load(), 1);
        Check.is("share told by the bytes", x.line(0, 3), 3);
    }

    private static void truncate() {
        EchoLine x = new EchoLine();
        x.append(0, 0, 0, 0, 0);
        Check.raisesArgument("truncate(21)", () -> x.truncate(21));
        Check.raisesArgument("truncate(-1)", () -> x.truncate(-1));
        Check.raisesArgument("truncate(least)", () -> x.truncate(Integer.MIN_VALUE));
        x.truncate(20);
        x.truncate(3);
        Check.raisesArgument("truncate(4)", () -> x.truncate(4));
        Check.is("append to 3 bytes", x.append(0, 0, 0, 0, 0), 23);
        x.truncate(0);
        Check.is("append to none", x.append(0, 0, 0, 0, 0), 20);
    }

    private static void loadFillsEverything() {
        EchoLine x = new EchoLine();
        Check.is("load", Check.load(x, "line a cap 4 marks 1 3 share 2 echo each;line b cap 60 marks 59 60 share 9 echo whole;\n"
            + "lend b to a for 99;line c cap 5 marks 0 1 share 1 echo none;type a 1 127 13 4 5;type b 9 13;type a 6;"), 3);
        int[][] due = {{4, 1, 3, 2, 1, 4, 4, 0, 0, -1, 0}, {60, 59, 60, 9, 2, 2, 2, 0, 0, 0, 99}, {5, 0, 1, 1, 0, 0, 0, 0, 0, -1, 0}};
        for (int line = 0; line < due.length; line++) {
            for (int what = 0; what < due[line].length; what++) {
                Check.is("line(" + line + ", " + what + ")", x.line(line, what), due[line][what]);
            }
        }
        Check.is("typed on a", x.count(0, 0), 6);
        Check.is("dropped on a", x.count(0, 2), 2);
        Check.is("offered on a", x.count(0, 4), 4);
        Check.is("stops of a", x.count(0, 8), 1);
        Check.is("offered on b", x.count(1, 4), 2);
        Check.is("left", x.property(4), 2);
        Check.is("turn", x.property(2), 0);
        Check.is("time", x.property(1), 0);
        Check.is("undoCount", x.undoCount(), 1);
        x.tick(1);
        Check.is("wait of a byte of the text", x.logged(0, 4), 1);
    }

    private static void loadStartsOver() {
        EchoLine x = Check.loaded(A + "line b cap 4 marks 1 3 share 3;lend a to b for 5;type b 1 2 3;");
        x.tick(2);
        x.reply(0, 7, 2);
        x.tick(1);
        x.breakLine(0, 9);
        x.setPaused(1, true);
        x.keep(1);
        int written = x.writeQueues();
        Check.is("load again", Check.load(x, A + "line b cap 4 marks 1 3 share 3;"), 2);
        String fresh = Check.picture(Check.loaded(A + "line b cap 4 marks 1 3 share 3;"));
        // The last two numbers are what can be undone (1 in the fresh one) and the longest run.
        Check.is("everything is that of the text", Check.picture(x), fresh.substring(0, fresh.length() - 2) + "6" + "0");
        Check.is("output stays", Check.output(x, written).charAt(0), 'a');
        Check.is("what can be undone stays", x.undoCount(), 6);
        Check.is("slots stay", x.restore(1), 3);
        Check.is("held of the slot", x.property(7), 1);
    }

    /** Questions are played where texts are built: nothing of them may be left in a text. */
    private static void loadBehindQuestions() {
        String first = "line a cap 9 marks 1 3 share 3 echo whole;line b cap 9 marks 1 3 share 3 echo whole;lend b to a for 9;";
        String second = "line a cap 4 marks 1 3 share 2;line b cap 4 marks 1 3 share 3;";
        EchoLine x = Check.loaded(first + "type a 1 2 3 4 13 6 7 8 9;type b 1 13 3;");
        x.tick(4);
        x.breakLine(1, 50);
        x.setPaused(0, true);
        x.sentIn(0, 1);
        Check.is("load", Check.load(x, second), 2);
        String fresh = Check.picture(Check.loaded(second));
        Check.is("all that is", Check.picture(x), fresh.substring(0, fresh.length() - 2) + "50");
        x.type(0, 1, 2);
        x.lend(0, 1, 5);
        x.tick(1);
        Check.is("nothing was sent in this turn", x.pass(), 1);
        Check.is("the lend is whole", x.line(0, 10), 5);
        x.recall(0);
        x.tick(1);
        Check.is("wait of the first byte", x.logged(0, 4), 2);
        Check.is("mean wait", x.meanWait(0), 2.0);
        Check.is("entries of the log", x.longestRun(), 1);
        EchoLine middle = Check.loaded(second + "type a 1 2;");
        middle.lend(0, 1, 5);
        middle.type(1, 1, 1);
        middle.tick(1);
        middle.nextSender();
        middle.keep(0);
        middle.fullest();
        middle.sentIn(1, 0);
        Check.load(middle, second + "lend a to b for 5;");
        middle.pass();
        Check.is("no byte was sent in the first turn of a text", middle.line(0, 10), 5);
    }

    private static void loadBehindIdleTicks() {
        EchoLine x = Check.loaded(A);
        x.tick(9);
        x.type(0, 1, 2);
        x.sentIn(0, 0);
        Check.load(x, A + "type a 7;");
        Check.is("idle ticks", x.property(6), 0);
        x.tick(1);
        Check.is("wait of the first byte", x.logged(0, 4), 1);
    }

    private static void loadOfFewerLines() {
        EchoLine x = Check.loaded(A + "line b cap 4 marks 1 3 share 2;line c cap 4 marks 1 3 share 2;"
            + "type b 1 2 3;type c 1 2 3 4 5;");
        x.tick(2);
        x.lend(1, 2, 2);
        x.setPaused(1, true);
        x.reply(1, 1, 3);
        x.breakLine(2, 9);
        x.type(1, 1, 4);
        Check.load(x, A);
        for (int what = 7; what <= 10; what++) {
            Check.is("set of lines " + what, x.property(what), 0);
        }
        for (int what = 0; what <= 11; what++) {
            Check.is("sum " + what, x.sum(what), 0);
        }
        Check.is("fullest", x.fullest(), 0);
        Check.is("busiest", x.busiest(), EchoLine.NONE);
        Check.is("quietIn", x.quietIn(), 0);
        Check.is("queues", Check.output(x, x.writeQueues()), "a:0/0");
        Check.give(x, "b");
        Check.is("find of a line that is no more", x.find(), EchoLine.NONE);
        Check.raisesIndex("a line that is no more", () -> x.line(1, 0));
    }

    private static void loadForgetsTheTextBefore() {
        EchoLine x = new EchoLine();
        Check.load(x, A + "type a 1 2 3;type c 1;");
        Check.is("lines", Check.load(x, A + "line b cap 4 marks 1 3 share 2;type b 7 8;"), 2);
        Check.is("bytes of a", x.line(0, 5), 0);
        Check.is("bytes of b", x.line(1, 5), 2);
        Check.load(x, A + "line b cap 4 marks 1 3 share 2;type a 9;");
        Check.is("bytes of a then", x.line(0, 5), 1);
        Check.is("bytes of b then", x.line(1, 5), 0);
    }

    private static void loadThatFailsKeepsAll() {
        EchoLine x = Check.loaded(A + "type a 1 2;");
        x.tick(1);
        String before = Check.picture(x);
        Check.is("load that fails", Check.load(x, "line b cap 9 marks 1 2 share 1;type c 1;"), EchoLine.PARSE_ERROR);
        Check.is("errorCode", x.errorCode(), 4);
        Check.is("errorPosition", x.errorPosition(), 36);
        Check.is("state behind a load that fails", Check.picture(x), before);
        Check.raisesArgument("the buffer is empty then", () -> x.truncate(1));
        Check.is("load that succeeds", Check.load(x, A), 1);
        Check.is("errorCode then", x.errorCode(), 0);
        Check.is("errorPosition then", x.errorPosition(), EchoLine.NONE);
        Check.load(x, "line");
        x.undo();
        Check.is("undo leaves the parse error", x.errorCode(), 1);
        Check.is("undo leaves its position", x.errorPosition(), 4);
    }

    private static void tokens() {
        Check.loaded("\n line  a\ncap4marks1 3share 2echo none;");
        Check.loaded("line abcdef cap 0000000000000000000000060 marks 000 01 share 009 echo none ; \n");
        Check.loaded(A + "type a 007 1 ;type a 127\n;");
        Check.fails("line\ta", 1, 4);
        Check.fails("Line a", 1, 0);
        Check.fails("line A", 1, 5);
        Check.fails("line \u00e9", 1, 5);
        Check.fails("line \u0000", 1, 5);
        Check.fails("line a cap -4", 1, 11);
        Check.fails("line a cap 4.", 1, 12);
        Check.fails("line a4", 1, 6);
        Check.fails("line a cap 99999999999999999999999999999999999999999999", 2, 11);
        Check.fails("line a cap 4294967300", 2, 11);
        Check.fails("line a cap 18446744073709551620", 2, 11);
    }

    private static void misplacedTokens() {
        Check.fails("", 1, 0);
        Check.fails("  \n ", 1, 4);
        Check.fails(";", 1, 0);
        Check.fails("type a 1;", 1, 0);
        Check.fails("lend a to b for 1;", 1, 0);
        Check.fails("cap", 1, 0);
        String whole = "line a cap 4 marks 1 3 share 2 echo each;";
        int[] ends = {5, 7, 11, 13, 19, 21, 23, 29, 31, 36, 40};
        for (int end : ends) {
            Check.fails(whole.substring(0, end), 1, end);
        }
        for (String keyword : "line cap marks share echo none each whole lend to for type".split(" ")) {
            Check.fails("line " + keyword + " cap", 1, 5);
            Check.loaded("line " + (keyword + "x").substring(keyword.length() > 5 ? 1 : 0) + " cap 4 marks 1 3 share 2;");
        }
        Check.fails("line a cap 4 marks 1 3 share 2,", 1, 30);
        Check.fails("line a cap 4 marks 1 3 share 2:line", 1, 30);
        Check.fails("line abcdefg cap 4", 1, 5);
        Check.fails("line a 4", 1, 7);
        Check.fails("line a cap cap", 1, 11);
        Check.fails("line a cap 4 4", 1, 13);
        Check.fails("line a cap 4 marks a", 1, 19);
        Check.fails("line a cap 4 marks 1 ;", 1, 21);
        Check.fails("line a cap 4 marks 1 3 echo", 1, 23);
        Check.fails("line a cap 4 marks 1 3 share ;", 1, 29);
        Check.fails("line a cap 4 marks 1 3 share 2 line", 1, 31);
        Check.fails("line a cap 4 marks 1 3 share 2 2", 1, 31);
        Check.fails("line a cap 4 marks 1 3 share 2 echo all", 1, 36);
        Check.fails("line a cap 4 marks 1 3 share 2 echo each each", 1, 41);
        Check.fails(A + ";", 1, 31);
        Check.fails(A + "echo", 1, 31);
        Check.fails(A + "lend", 1, 35);
        Check.fails(A + "lend 1", 1, 36);
        Check.fails(A + "lend abcdefg", 1, 36);
        Check.fails(A + "lend to", 1, 36);
        Check.fails(A + "lend a a", 1, 38);
        Check.fails(A + "lend a to for", 1, 41);
        Check.fails(A + "type 1", 1, 36);
        Check.fails(A + "type a", 1, 37);
        Check.fails(A + "type a;", 1, 37);
        Check.fails(A + "type a 1", 1, 39);
        Check.fails(A + "type a 1 a", 1, 40);
        Check.fails(A + "type a 1;type", 1, 44);
        String two = A + "line b cap 4 marks 1 3 share 2;";
        Check.fails(two + "lend a to b 1", 1, 74);
        Check.fails(two + "lend a to b for b", 1, 78);
        Check.fails(two + "lend a to b for 1 2", 1, 80);
        Check.fails(two + "lend a to b for 1", 1, 79);
    }

    private static void otherKeywords() {
        String text = "line a cap 4 marks 1 3 share 2 echo each;line b cap 4 marks 1 3 share 2;lend a to b for 1;";
        for (String keyword : "cap marks share each to for".split(" ")) {
            int start = text.indexOf(keyword);
            for (String other : "line cap marks share echo none each whole lend to for type x".split(" ")) {
                boolean fits = other.equals(keyword) || keyword.equals("each") && "none whole".contains(other);
                if (!fits) {
                    Check.fails(text.substring(0, start) + other + text.substring(start + keyword.length()), 1, start);
                }
            }
        }
        for (String other : "cap marks share echo none each whole to for x xxxxxxx".split(" ")) {
            Check.fails(A + other + " a", 1, A.length());
        }
        for (String other : "line cap marks share none each whole lend to for type x".split(" ")) {
            Check.fails(A.substring(0, 30) + " " + other + " each;", 1, 31);
        }
    }

    private static void numbersOutOfRange() {
        Check.fails("line a cap 3", 2, 11);
        Check.fails("line a cap 61", 2, 11);
        Check.fails("line a cap 0", 2, 11);
        Check.fails("line a cap 4 marks 4", 2, 19);
        Check.fails("line a cap 4 marks 0 0", 2, 21);
        Check.fails("line a cap 4 marks 3 3", 2, 21);
        Check.fails("line a cap 4 marks 3 5", 2, 21);
        Check.loaded("line a cap 4 marks 3 4 share 1;");
        Check.loaded("line a cap 60 marks 0 60 share 9;");
        Check.fails("line a cap 4 marks 3 4 share 0", 2, 29);
        Check.fails("line a cap 4 marks 3 4 share 10", 2, 29);
        String two = A + "line b cap 4 marks 1 3 share 2;";
        Check.fails(two + "lend a to b for 0", 2, 78);
        Check.fails(two + "lend a to b for 100", 2, 78);
        Check.loaded(two + "lend a to b for 1;lend b to a for 99;");
        Check.fails(A + "type a 0", 2, 38);
        Check.fails(A + "type a 128", 2, 38);
        Check.fails(A + "type a 127 1 256", 2, 44);
    }

    private static void names() {
        String two = A + "line b cap 4 marks 1 3 share 2;";
        Check.fails(A + "line a", 3, 36);
        Check.loaded(A + "line aa cap 4 marks 1 3 share 2;");
        Check.fails(A + "lend b", 4, 36);
        Check.fails(A + "lend a to b", 4, 41);
        Check.fails(A + "lend a to a", 3, 41);
        Check.fails(two + "lend a to b for 1;lend a", 3, 85);
        Check.fails(A + "type b", 4, 36);
        Check.fails(A + "type a 1;type aa", 4, 45);
        Check.loaded(A + "type a 1;line b cap 4 marks 1 3 share 2;type b 2;lend b to a for 2;");
        Check.fails(A + "type b 1;line b cap 4 marks 1 3 share 2;", 4, 36);
    }

    private static void tooMany() {
        StringBuilder six = new StringBuilder();
        for (char name = 'a'; name <= 'f'; name++) {
            six.append("line ").append(name).append(" cap 4 marks 1 3 share 2;");
        }
        Check.is("six lines", Check.load(new EchoLine(), six.toString()), 6);
        Check.fails(six + "line", 5, 186);
        Check.fails(six + "line g cap 4 marks 1 3 share 2;", 5, 186);
        String sixty = A + "type a" + " 1".repeat(30) + ";type a" + " 1".repeat(30);
        Check.is("sixty bytes", Check.load(new EchoLine(), sixty + ";"), 1);
        Check.fails(sixty + " 1;", 5, sixty.length() + 1);
        Check.fails(sixty + ";type a 1;", 5, sixty.length() + 8);
    }

    private static void smallestCode() {
        String sixty = A + "type a" + " 1".repeat(60);
        Check.fails(sixty + " 128;", 2, sixty.length() + 1);
        Check.fails(sixty + " line;", 1, sixty.length() + 1);
        Check.fails(A + "lend line", 1, 36);
        Check.fails(A + "line a a", 3, 36);
    }

    private static void find() {
        EchoLine x = Check.loaded("line a cap 4 marks 1 3 share 2;line ab cap 4 marks 1 3 share 2;line abcdef cap 4 marks 1 3 share 2;");
        String[] names = {"a", "ab", "abcdef", "abc", "b", "", " a", "a ", "A", "abcdefg", "line"};
        int[] due = {0, 1, 2, -1, -1, -1, -1, -1, -1, -1, -1};
        for (int i = 0; i < names.length; i++) {
            Check.give(x, names[i]);
            Check.is("find of " + names[i], x.find(), due[i]);
            Check.raisesArgument("the buffer is empty behind find", () -> x.truncate(1));
        }
        Check.is("find changes nothing that can be undone", x.undoCount(), 1);
        EchoLine nameless = new EchoLine();
        Check.is("find of nothing", nameless.find(), EchoLine.NONE);
    }
}
