import java.util.NoSuchElementException;

/** The edges of promises 47 to 50: outputs that are empty, as long as can be, longer and shorter than the one before. */
public final class OutputEdgesTest {
    public static void main(String[] args) {
        nothingIsWrittenAtFirst();
        queuesOf1To6Lines();
        queuesAsLongAsCanBe();
        flagsOfEachKind();
        logOf0To21Entries();
        logAsLongAsCanBe();
        ownersOfTheLog();
        countsOf1To5Digits();
        countsAreThe8FirstOnes();
        bytesFrom0ToTheLength();
        aShorterOutputReplacesALongerOne();
        otherCallsLeaveTheOutput();
        Check.finish();
    }

    private static void raisesNoElement(EchoLine x, int index) {
        Check.raises("outputByte(" + index + ")", NoSuchElementException.class, () -> x.outputByte(index));
    }

    private static void nothingIsWrittenAtFirst() {
        EchoLine x = new EchoLine();
        for (int index : new int[] {0, 1, -1, 399, 400, Integer.MIN_VALUE, Integer.MAX_VALUE}) {
            raisesNoElement(x, index);
        }
        x.append(1, 2, 3, 4, 5);
        raisesNoElement(x, 0);
    }

    private static String lines(int many, String rest) {
        StringBuilder text = new StringBuilder();
        for (int i = 0; i < many; i++) {
            text.append("line ").append((char) ('a' + i)).append(rest).append(';');
        }
        return text.toString();
    }

    private static void queuesOf1To6Lines() {
        for (int many = 1; many <= 6; many++) {
            EchoLine x = Check.loaded(lines(many, " cap 4 marks 0 4 share 1"));
            int length = x.writeQueues();
            Check.is("length", length, 6 * many - 1);
            Check.is("each line", Check.output(x, length), "a:0/0 b:0/0 c:0/0 d:0/0 e:0/0 f:0/0".substring(0, 6 * many - 1));
        }
        EchoLine x = new EchoLine();
        Check.is("the line without a name", Check.output(x, x.writeQueues()), ":0/0");
    }

    private static void queuesAsLongAsCanBe() {
        EchoLine x = Check.loaded(lines(6, "bcdef cap 60 marks 0 1 share 9"));
        for (int line = 0; line < 6; line++) {
            x.type(line, 1, 60);
            x.reply(line, 1, 60);
            x.setPaused(line, true);
        }
        int length = x.writeQueues();
        Check.is("length", length, 89);
        Check.is("all", Check.output(x, length), "abcdef:60/60sp bbcdef:60/60sp cbcdef:60/60sp dbcdef:60/60sp "
            + "ebcdef:60/60sp fbcdef:60/60sp");
        x.tick(51);
        Check.is("9 and 10 bytes", Check.output(x, x.writeQueues()), "abcdef:51/60sp bbcdef:51/60sp cbcdef:51/60sp "
            + "dbcdef:51/60sp ebcdef:51/60sp fbcdef:54/60sp");
    }

    private static void flagsOfEachKind() {
        for (int flags = 0; flags < 8; flags++) {
            EchoLine x = Check.loaded("line a cap 4 marks 0 1 share 1;line b cap 4 marks 0 1 share 1;");
            boolean held = (flags & 1) != 0;
            boolean stopping = (flags & 2) != 0;
            x.setPaused(0, (flags & 4) != 0);
            if (stopping && !held) {
                x.type(0, 1, 1);
            }
            if (held) {
                x.breakLine(0, 1);
            }
            // A held line has an empty IN, so that it is not stopping.
            String due = held ? "a:0/0h" : stopping ? "a:1/0s" : "a:0/0";
            due += (flags & 4) != 0 ? "p b:0/0" : " b:0/0";
            Check.is("flags " + flags, Check.output(x, x.writeQueues()), due);
        }
        EchoLine x = Check.loaded("line a cap 4 marks 0 1 share 1;");
        x.breakLine(0, 2);
        x.tick(1);
        Check.is("held for 1 yet", Check.output(x, x.writeQueues()), "a:0/0h");
        x.tick(1);
        Check.is("held no more", Check.output(x, x.writeQueues()), "a:0/0");
    }

    private static void logOf0To21Entries() {
        for (int many : new int[] {0, 1, 2, 19, 20, 21, 22, 39, 40, 41, 45}) {
            EchoLine x = Check.loaded("line a cap 60 marks 0 60 share 9;line b cap 60 marks 0 60 share 9;");
            StringBuilder due = new StringBuilder();
            for (int i = 0; i < many; i++) {
                int line = i % 7 == 0 || i % 5 == 0 ? 1 : 0;
                x.type(line, 1, 1);
                x.tick(1);
                due.append(line);
            }
            int length = x.writeLog();
            Check.is("length of " + many, length, Math.min(20, many));
            Check.is("the last of " + many, Check.output(x, length), due.substring(Math.max(0, many - 20)));
        }
    }

    private static void logAsLongAsCanBe() {
        EchoLine x = Check.loaded("line a cap 60 marks 0 60 share 1;line b cap 60 marks 0 60 share 1;lend a to b for 99;");
        x.pass();
        x.pass();
        for (int i = 0; i < 20; i++) {
            x.type(1, 1, 1);
            Check.is("in a's turn", x.property(2), 0);
            x.tick(1);
            x.pass();
        }
        int length = x.writeLog();
        Check.is("length", length, 60);
        Check.is("all with their owner", Check.output(x, length), "1^0".repeat(20));
        x.pass();
        x.type(1, 1, 1);
        x.tick(1);
        Check.is("the last 20 of 21", Check.output(x, x.writeLog()), "1^0".repeat(19) + "1");
    }

    private static void ownersOfTheLog() {
        EchoLine x = Check.loaded(lines(6, " cap 4 marks 0 4 share 1") + "lend a to f for 1;lend f to a for 1;type a 1 2;type f 3 4;");
        x.tick(2);
        Check.is("both with another owner", Check.output(x, x.writeLog()), "5^00^5");
        x.tick(2);
        Check.is("none of them lends any more", Check.output(x, x.writeLog()), "5^00^505");
    }

    private static void countsOf1To5Digits() {
        EchoLine x = Check.loaded("line a cap 4 marks 0 4 share 1;line b cap 4 marks 0 4 share 1;");
        int typed = 0;
        for (int goal : new int[] {1, 9, 10, 11, 99, 100, 101, 110, 999, 1000, 1001, 9999, 10000, 10001}) {
            while (typed < goal) {
                int many = Math.min(60, goal - typed);
                x.type(0, 1, many);
                typed += many;
            }
            int length = x.writeCounts(0);
            int dropped = Math.max(0, goal - 4);
            String due = goal + ",0," + dropped + ",0,0,0,0,0";
            Check.is("length with " + goal, length, due.length());
            Check.is("counts with " + goal, Check.output(x, length), due);
        }
        Check.is("the other line", Check.output(x, x.writeCounts(1)), "0,0,0,0,0,0,0,0");
    }

    private static void countsAreThe8FirstOnes() {
        EchoLine x = Check.loaded("line a cap 4 marks 0 1 share 1 echo each;line b cap 4 marks 0 4 share 1;lend b to a for 9;");
        x.type(0, 1, 5);
        x.tick(2);
        x.reply(0, 2, 3);
        x.breakLine(0, 1);
        StringBuilder due = new StringBuilder();
        for (int what = 0; what <= 7; what++) {
            due.append(what == 0 ? "" : ",").append(x.count(0, what));
        }
        Check.is("told by count", Check.output(x, x.writeCounts(0)), due.toString());
        Check.is("each of them", due.toString(), "5,2,1,2,7,2,1,4");
    }

    private static void bytesFrom0ToTheLength() {
        EchoLine x = Check.loaded("line abc cap 4 marks 0 4 share 1;");
        int length = x.writeQueues();
        Check.is("length", length, 7);
        String due = "abc:0/0";
        for (int i = 0; i < length; i++) {
            Check.is("byte " + i, x.outputByte(i), due.charAt(i));
        }
        for (int index : new int[] {length, length + 1, 60, 399, 400, 401, -1, -2, Integer.MAX_VALUE, Integer.MIN_VALUE}) {
            raisesNoElement(x, index);
        }
    }

    private static void aShorterOutputReplacesALongerOne() {
        EchoLine x = Check.loaded("line abc cap 4 marks 0 4 share 1;line b cap 4 marks 0 4 share 1;");
        Check.is("15 bytes", x.writeCounts(0), 15);
        Check.is("13 bytes", x.writeQueues(), 13);
        raisesNoElement(x, 13);
        Check.is("the last of 13", x.outputByte(12), '0');
        Check.is("none", x.writeLog(), 0);
        raisesNoElement(x, 0);
        x.type(0, 1, 1);
        x.tick(1);
        Check.is("one", x.writeLog(), 1);
        Check.is("the only one", x.outputByte(0), '0');
        raisesNoElement(x, 1);
        Check.is("15 again", x.writeCounts(1), 15);
        Check.is("the last of 15", x.outputByte(14), '0');
        raisesNoElement(x, 15);
    }

    private static void otherCallsLeaveTheOutput() {
        EchoLine x = Check.loaded("line abc cap 4 marks 0 4 share 1;line b cap 4 marks 0 4 share 1;");
        int length = x.writeQueues();
        x.keep(0);
        x.type(0, 1, 4);
        x.tick(2);
        x.restore(0);
        x.undo();
        Check.load(x, "line z cap 4 marks 0 4 share 1;");
        Check.load(x, "line");
        Check.give(x, "z");
        x.find();
        Check.raisesIndex("refused", () -> x.writeCounts(1));
        Check.raisesIndex("refused too", () -> x.writeCounts(-1));
        Check.is("the output", Check.output(x, length), "abc:0/0 b:0/0");
    }
}
