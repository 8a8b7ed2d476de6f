/** Promises 43 to 46: slots and undo. */
public final class UndoTest {
    private static final String TWO = "line a cap 6 marks 1 4 share 2 echo whole;line b cap 4 marks 0 2 share 1 echo each;"
        + "lend b to a for 3;type a 1 2;type b 3;";

    public static void main(String[] args) {
        keepAndRestore();
        keepIsNotUndone();
        undoOfEachCall();
        theLogComesBack();
        theLastSix();
        whatUndoLeaves();
        undoAcrossTexts();
        Check.finish();
    }

    private static void keepAndRestore() {
        EchoLine x = Check.loaded(TWO);
        Check.raisesState("nothing is kept in 0", () -> x.restore(0));
        x.tick(2);
        String kept = withoutUndo(Check.picture(x));
        Check.is("time kept", x.keep(0), 2);
        Check.raisesState("nothing is kept in 1", () -> x.restore(1));
        x.tick(3);
        x.type(1, 9, 2);
        Check.is("time kept in 1", x.keep(1), 5);
        Check.is("time of 0", x.restore(0), 2);
        Check.is("as it was kept", withoutUndo(Check.picture(x)), kept);
        x.tick(9);
        x.breakLine(0, 3);
        Check.is("time of 0 again", x.restore(0), 2);
        Check.is("the slot keeps it", withoutUndo(Check.picture(x)), kept);
        Check.is("time of 1", x.restore(1), 5);
        Check.is("in place of what was there", x.keep(0), 5);
        Check.is("restored then", x.restore(0), 5);
        Check.raisesIndex("keep(2)", () -> x.keep(2));
        Check.raisesIndex("keep(-1)", () -> x.keep(-1));
        Check.raisesIndex("restore(2)", () -> x.restore(2));
        Check.raisesIndex("restore(-1)", () -> x.restore(-1));
        EchoLine nameless = new EchoLine();
        nameless.keep(1);
        Check.load(nameless, TWO);
        Check.is("a slot stays behind a load", nameless.restore(1), 0);
        Check.is("the line without a name", Check.output(nameless, nameless.writeQueues()), ":0/0");
    }

    private static String withoutUndo(String picture) {
        return picture.substring(0, picture.lastIndexOf(' '));
    }

    private static void keepIsNotUndone() {
        EchoLine x = Check.loaded(TWO);
        x.keep(0);
        Check.is("keep cannot be undone", x.undoCount(), 1);
        x.tick(1);
        x.tick(1);
        x.restore(0);
        Check.is("what can be undone is not kept", x.undoCount(), 4);
        Check.is("undo of restore", x.undo(), 3);
        Check.is("time", x.property(1), 2);
        x.undo();
        Check.is("time then", x.property(1), 1);
        Check.is("the slot stays behind undo", x.restore(0), 0);
        x.undo();
        x.undo();
        x.undo();
        Check.raisesState("nothing to undo", x::undo);
        Check.is("the slot stays to the end", x.restore(0), 0);
        Check.is("its lines", x.property(0), 2);
    }

    private interface Change {
        void of(EchoLine x);
    }

    private static EchoLine busy() {
        EchoLine x = Check.loaded(TWO);
        x.tick(2);
        x.breakLine(1, 4);
        x.keep(1);
        x.tick(1);
        x.type(0, 50, 3);
        return x;
    }

    private static void undoOfEachCall() {
        String before = Check.picture(busy());
        int count = busy().undoCount();
        Change[] calls = {x -> Check.load(x, "line z cap 5 marks 1 2 share 3;type z 8;"), x -> x.type(0, 13, 9),
            x -> x.reply(0, 5, 9), x -> x.tick(200), x -> x.lend(0, 1, 4), x -> x.recall(1), x -> x.breakLine(0, 5),
            x -> x.setPaused(0, true), x -> x.setEcho(0, 0), x -> x.setMarks(0, 4, 5), x -> x.setShare(0, 7),
            EchoLine::pass, x -> x.restore(1)};
        for (int i = 0; i < calls.length; i++) {
            EchoLine x = busy();
            calls[i].of(x);
            Check.is("changed by call " + i, Check.picture(x).equals(before), false);
            Check.is("undoCount behind call " + i, x.undoCount(), count + 1);
            Check.is("undo of call " + i, x.undo(), count);
            Check.is("state behind undo of call " + i, Check.picture(x), before);
        }
        Change[] same = {x -> x.recall(0), x -> x.setPaused(0, false), x -> x.setEcho(0, 2), x -> x.setMarks(0, 1, 4),
            x -> x.setShare(0, 2)};
        for (int i = 0; i < same.length; i++) {
            EchoLine x = busy();
            same[i].of(x);
            Check.is("a call without a change can be undone " + i, x.undo(), count);
        }
    }

    private static void theLogComesBack() {
        EchoLine x = Check.loaded(TWO);
        x.tick(3);
        x.keep(0);
        String before = Check.picture(x);
        Check.load(x, "line z cap 5 marks 1 2 share 3;type z 8 9 10;");
        x.tick(1);
        x.tick(2);
        Check.is("another log", x.logged(2, 3), 8);
        String between = Check.picture(x);
        x.restore(0);
        Check.is("the log of the slot", x.logged(0, 3), 2);
        x.undo();
        Check.is("the log ahead of restore", Check.picture(x), between);
        x.undo();
        x.undo();
        x.undo();
        Check.is("the log ahead of the text", Check.picture(x), before);
    }

    private static void theLastSix() {
        EchoLine x = Check.loaded(TWO);
        for (int i = 1; i <= 9; i++) {
            x.tick(1);
            Check.is("undoCount behind " + i, x.undoCount(), Math.min(6, i + 1));
        }
        for (int i = 5; i >= 0; i--) {
            Check.is("undo", x.undo(), i);
            Check.is("time", x.property(1), 3 + i);
        }
        Check.raisesState("the 7th undo", x::undo);
        Check.is("time stays", x.property(1), 3);
        x.tick(1);
        Check.is("again", x.undoCount(), 1);
        Check.is("undo again", x.undo(), 0);
        Check.is("time then", x.property(1), 3);
    }

    private static void whatUndoLeaves() {
        EchoLine x = Check.loaded(TWO);
        x.tick(1);
        x.append(1, 2, 3, 4, 5);
        int length = x.writeCounts(0);
        String output = Check.output(x, length);
        x.tick(1);
        x.keep(0);
        x.undo();
        Check.is("the output buffer", Check.output(x, length), output);
        Check.is("the input buffer", x.append(1, 2, 3, 4, 5), 40);
        Check.is("the slot", x.restore(0), 2);
        Check.is("the input buffer behind restore", x.append(1, 2, 3, 4, 5), 60);
        Check.is("the output buffer behind restore", Check.output(x, length), output);
    }

    private static void undoAcrossTexts() {
        EchoLine x = new EchoLine();
        x.type(0, 7, 3);
        Check.load(x, "line z cap 5 marks 1 2 share 3;");
        Check.load(x, TWO);
        x.undo();
        Check.is("z", Check.output(x, x.writeQueues()), "z:0/0");
        Check.is("its share", x.property(4), 3);
        x.undo();
        Check.is("the line without a name", Check.output(x, x.writeQueues()), ":3/0");
        Check.is("its byte", x.queued(0, false, 2), 7);
        Check.raisesIndex("one line alone", () -> x.line(1, 0));
        x.undo();
        Check.is("without the bytes", Check.output(x, x.writeQueues()), ":0/0");
    }
}
