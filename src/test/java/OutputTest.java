/** Promises 47 to 50: the output buffer. */
public final class OutputTest {
    private static final String TWO = "line a cap 6 marks 1 4 share 2;line word cap 14 marks 0 12 share 1 echo each;";

    public static void main(String[] args) {
        writeQueues();
        writeLog();
        writeCounts();
        outputByte();
        Check.finish();
    }

    private static void writeQueues() {
        EchoLine x = Check.loaded(TWO);
        Check.is("at first", Check.output(x, x.writeQueues()), "a:0/0 word:0/0");
        x.type(1, 1, 13);
        x.reply(0, 1, 2);
        Check.is("bytes and a stop", Check.output(x, x.writeQueues()), "a:0/2 word:13/13s");
        x.setPaused(1, true);
        x.setPaused(0, true);
        x.breakLine(0, 2);
        Check.is("held, stopping, paused", Check.output(x, x.writeQueues()), "a:0/0hp word:13/13sp");
        x.setMarks(1, 0, 1);
        x.tick(1);
        Check.is("held for 1 tick yet", Check.output(x, x.writeQueues()), "a:0/0hp word:12/13sp");
        x.tick(1);
        Check.is("held no more", Check.output(x, x.writeQueues()), "a:0/0p word:11/13sp");
        Check.is("nothing to undo of it", x.undoCount(), 6);
    }

    private static void writeLog() {
        EchoLine x = Check.loaded(TWO + "lend word to a for 1;type a 1 2 3;type word 1 2;");
        Check.is("empty", Check.output(x, x.writeLog()), "");
        x.tick(3);
        Check.is("with an owner", Check.output(x, x.writeLog()), "000^1");
        x.tick(2);
        Check.is("all", Check.output(x, x.writeLog()), "000^111");
        x.type(1, 1, 14);
        x.tick(14);
        Check.is("19 entries", Check.output(x, x.writeLog()), "000^1" + "1".repeat(16));
        x.type(1, 1, 1);
        x.tick(1);
        Check.is("20 entries", Check.output(x, x.writeLog()), "000^1" + "1".repeat(17));
        x.type(1, 1, 1);
        x.tick(1);
        Check.is("the last 20 of 21", Check.output(x, x.writeLog()), "00^1" + "1".repeat(18));
    }

    private static void writeCounts() {
        EchoLine x = Check.loaded(TWO);
        Check.is("at first", Check.output(x, x.writeCounts(1)), "0,0,0,0,0,0,0,0");
        x.type(1, 1, 60);
        x.reply(1, 1, 60);
        x.tick(4);
        x.type(1, 2, 60);
        x.breakLine(1, 3);
        Check.is("numbers of more digits", Check.output(x, x.writeCounts(1)), "120,4,102,14,78,4,60,14");
        for (int i = 0; i < 20; i++) {
            x.type(1, 1, 60);
        }
        Check.is("four digits", Check.output(x, x.writeCounts(1)), "1320,4,1302,14,78,4,60,14");
        Check.is("another line", Check.output(x, x.writeCounts(0)), "0,0,0,0,0,0,0,0");
        Check.raisesIndex("writeCounts(2)", () -> x.writeCounts(2));
        Check.raisesIndex("writeCounts(-1)", () -> x.writeCounts(-1));
        Check.is("the output stays behind a refused call", Check.output(x, 15), "0,0,0,0,0,0,0,0");
    }

    private static void outputByte() {
        EchoLine x = Check.loaded(TWO);
        Check.raises("outputByte of nothing", java.util.NoSuchElementException.class, () -> x.outputByte(0));
        int length = x.writeQueues();
        Check.is("the first byte", x.outputByte(0), 'a');
        Check.is("the last byte", x.outputByte(length - 1), '0');
        Check.raises("outputByte(length)", java.util.NoSuchElementException.class, () -> x.outputByte(length));
        Check.raises("outputByte(-1)", java.util.NoSuchElementException.class, () -> x.outputByte(-1));
        Check.raises("outputByte(greatest)", java.util.NoSuchElementException.class, () -> x.outputByte(Integer.MAX_VALUE));
        x.writeLog();
        Check.raises("replaced by nothing", java.util.NoSuchElementException.class, () -> x.outputByte(0));
        x.writeQueues();
        Check.load(x, TWO);
        Check.is("a load leaves the output", x.outputByte(0), 'a');
    }
}
