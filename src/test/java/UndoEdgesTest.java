/** The edges of section 4 and of promises 43 to 46, and the last of the 512 calls. */
public final class UndoEdgesTest {
    private static final String TWO = "line a cap 9 marks 1 4 share 3 echo whole;line b cap 4 marks 0 2 share 2 echo each;"
        + "lend b to a for 3;type a 1 2;type b 3;";

    public static void main(String[] args) {
        undoOfNothing();
        undoOf1To6Calls();
        undoOfTheLast6Of7AndMore();
        undoAndCallsByTurns();
        eachCallAlsoIfNothingChanges();
        callsThatCannotBeUndone();
        undoOfTheFirstLoad();
        undoOf7Loads();
        undoInTheMiddleOfATurn();
        undoOfTheLogAndOfWaits();
        undoOfEachPartOfALine();
        undoLeavesBuffersErrorAndSlots();
        slots0And1();
        slotsAcrossTexts();
        aSlotKeepsItAndIsOverwritten();
        restoreInTheMiddleOfATurn();
        theLastOf512Calls();
        manyLoadsAndRestores();
        Check.finish();
    }

    private static void undoOfNothing() {
        EchoLine x = new EchoLine();
        Check.is("nothing can be undone", x.undoCount(), 0);
        Check.raisesState("undo", x::undo);
        Check.is("nor behind it", x.undoCount(), 0);
        x.tick(1);
        Check.is("one call", x.undoCount(), 1);
        Check.is("undo of the only one", x.undo(), 0);
        Check.raisesState("undo again", x::undo);
        Check.is("time", x.property(1), 0);
    }

    private static void undoOf1To6Calls() {
        for (int calls = 1; calls <= 6; calls++) {
            EchoLine x = new EchoLine();
            for (int i = 1; i <= calls; i++) {
                x.tick(i);
                Check.is("calls that can be undone", x.undoCount(), i);
            }
            for (int i = calls; i >= 1; i--) {
                Check.is("undo", x.undo(), i - 1);
                Check.is("time", x.property(1), i * (i - 1) / 2);
                Check.is("undoCount", x.undoCount(), i - 1);
            }
            Check.raisesState("undo of one more than " + calls, x::undo);
        }
    }

    private static void undoOfTheLast6Of7AndMore() {
        for (int calls : new int[] {7, 8, 11, 12, 13, 60}) {
            EchoLine x = new EchoLine();
            for (int i = 1; i <= calls; i++) {
                x.tick(1);
            }
            Check.is("6 of " + calls, x.undoCount(), 6);
            for (int i = 1; i <= 6; i++) {
                Check.is("undo", x.undo(), 6 - i);
                Check.is("time", x.property(1), calls - i);
            }
            Check.raisesState("a 7th undo", x::undo);
            Check.is("it changes nothing", x.property(1), calls - 6);
        }
    }

    private static void undoAndCallsByTurns() {
        EchoLine x = new EchoLine();
        for (int i = 0; i < 20; i++) {
            x.tick(1);
            x.tick(2);
            x.undo();
        }
        Check.is("time", x.property(1), 20);
        Check.is("the last of 6 was undone", x.undoCount(), 5);
        x.undo();
        x.undo();
        x.type(0, 7, 1);
        x.type(0, 8, 1);
        x.type(0, 9, 1);
        Check.is("3 and 3", x.undoCount(), 6);
        for (int left = 2; left >= 0; left--) {
            x.undo();
            Check.is("bytes", x.line(0, 5), left);
        }
        for (int time = 17; time >= 15; time--) {
            x.undo();
            Check.is("time then", x.property(1), time);
        }
        Check.raisesState("those ahead of the last 6 are gone", x::undo);
    }

    private static void eachCallAlsoIfNothingChanges() {
        EchoLine x = Check.loaded(TWO);
        x.undo();
        Check.Call[] calls = {() -> x.recall(0), () -> x.setPaused(0, false), () -> x.setEcho(0, 0), () -> x.setMarks(0, 2, 8),
            () -> x.setShare(0, 1), x::pass, () -> x.restore(0), () -> x.setMarks(0, 2, 8)};
        x.keep(0);
        String before = withoutCount(x);
        for (int i = 0; i < calls.length; i++) {
            calls[i].run();
            Check.is("nothing changes by call " + i, withoutCount(x), before);
            Check.is("it can be undone, 6 at most", x.undoCount(), Math.min(6, i + 1));
        }
        Check.is("undo", x.undo(), 5);
        Check.is("nothing changes by undo", withoutCount(x), before);
        EchoLine y = Check.loaded(TWO);
        before = withoutCount(y);
        Check.load(y, TWO);
        Check.is("the same text again", withoutCount(y), before);
        Check.is("it can be undone", y.undoCount(), 2);
        y.lend(1, 0, 3);
        Check.is("the same lend again", withoutCount(y), before);
        Check.is("it can be undone too", y.undoCount(), 3);
        y.breakLine(1, 1);
        y.type(1, 1, 1);
        y.reply(1, 1, 1);
        Check.is("bytes that are dropped", y.undoCount(), 6);
        y.undo();
        y.undo();
        Check.is("are typed no more", y.count(1, 2), 0);
        Check.is("nor offered", y.count(1, 6), 0);
    }

    private static String withoutCount(EchoLine x) {
        String picture = Check.picture(x);
        return picture.substring(0, picture.lastIndexOf(' '));
    }

    private static void callsThatCannotBeUndone() {
        EchoLine x = Check.loaded(TWO);
        x.tick(1);
        x.keep(0);
        x.keep(1);
        Check.give(x, "a");
        x.find();
        Check.load(x, "line a cap 61");
        x.writeQueues();
        x.writeLog();
        x.writeCounts(0);
        x.outputByte(0);
        Check.picture(x);
        x.sentIfLent(0, 1);
        x.bestBorrower(0);
        x.droppedBy(0, 500);
        Check.raisesArgument("refused", () -> x.tick(0));
        Check.raisesIndex("refused too", () -> x.restore(2));
        Check.is("two calls alone", x.undoCount(), 2);
        x.undo();
        Check.is("undo cannot be undone", x.undoCount(), 1);
        Check.is("the tick is", x.property(1), 0);
    }

    private static void undoOfTheFirstLoad() {
        EchoLine x = new EchoLine();
        String before = withoutCount(x);
        Check.load(x, TWO);
        Check.is("undo", x.undo(), 0);
        Check.is("the line without a name", withoutCount(x), before);
        Check.is("its queues", Check.output(x, x.writeQueues()), ":0/0");
        Check.is("it takes bytes", x.type(0, 1, 11), 1);
        Check.is("and sends them", x.tick(11), 10);
    }

    private static void undoOf7Loads() {
        EchoLine x = new EchoLine();
        for (int i = 1; i <= 7; i++) {
            Check.load(x, "line l" + (char) ('a' + i) + " cap " + (10 + i) + " marks 0 " + i + " share " + i + ";");
        }
        for (int i = 6; i >= 1; i--) {
            Check.is("undo", x.undo(), i - 1);
            Check.is("name", Check.output(x, x.writeQueues()), "l" + (char) ('a' + i) + ":0/0");
            Check.is("capacity", x.line(0, 0), 10 + i);
            Check.is("left", x.property(4), i);
        }
        Check.raisesState("the first load cannot be undone any more", x::undo);
        Check.is("capacity of the first", x.line(0, 0), 11);
    }

    /** That a byte was sent in this turn comes back too, and that none was. */
    private static void undoInTheMiddleOfATurn() {
        EchoLine x = Check.loaded("line a cap 9 marks 0 9 share 3;line b cap 9 marks 0 9 share 3;lend a to b for 5;type b 1 2 3 4;");
        x.tick(1);
        Check.is("pass", x.pass(), 1);
        Check.is("a turn with a byte", x.line(0, 10), 4);
        x.undo();
        Check.is("left comes back", x.property(4), 2);
        Check.is("turn comes back", x.property(2), 0);
        Check.is("turns come back", x.line(0, 10), 5);
        x.pass();
        Check.is("it was a turn with a byte", x.line(0, 10), 4);
        x.undo();
        x.undo();
        x.pass();
        Check.is("it was a turn without a byte", x.line(0, 10), 5);
    }

    private static void undoOfTheLogAndOfWaits() {
        EchoLine x = Check.loaded("line a cap 60 marks 0 60 share 9;");
        x.type(0, 1, 41);
        x.tick(39);
        x.tick(1);
        x.tick(1);
        Check.is("the entry of the time 1 is gone", x.logged(39, 0), 2);
        x.undo();
        for (int i = 0; i < 40; i++) {
            Check.is("entry " + i + " comes back", x.logged(i, 0), 40 - i);
        }
        x.undo();
        Check.raisesIndex("39 entries", () -> x.logged(39, 0));
        Check.is("the greatest wait", x.count(0, 11), 39);
        Check.is("the mean of 1 to 39", x.meanWait(0), 20.0);
        x.undo();
        Check.raisesIndex("no entry", () -> x.logged(0, 0));
        Check.is("no wait", x.count(0, 11), 0);
        x.tick(1);
        Check.is("the bytes have the times at which they came", x.logged(0, 4), 1);
    }

    private interface Change {
        void of(EchoLine x);
    }

    private static EchoLine busy() {
        EchoLine x = Check.loaded(TWO);
        x.type(0, 65, 3);
        x.reply(1, 66, 2);
        x.tick(2);
        x.keep(0);
        x.setPaused(1, true);
        return x;
    }

    private static void undoOfEachPartOfALine() {
        String before = Check.picture(busy());
        Change[] changes = {x -> x.type(0, 13, 1), x -> x.type(1, 1, 60), x -> x.reply(0, 1, 60), x -> x.tick(1), x -> x.tick(200),
            x -> x.lend(0, 1, 99), x -> x.recall(1), x -> x.breakLine(0, 50), x -> x.breakLine(1, 1), x -> x.setPaused(1, false),
            x -> x.setPaused(0, true), x -> x.setEcho(0, 2), x -> x.setEcho(1, 0), x -> x.setMarks(0, 0, 1), x -> x.setShare(0, 9),
            EchoLine::pass, x -> x.restore(0), x -> Check.load(x, "line z cap 4 marks 0 1 share 1 echo each;type z 1;")};
        for (int i = 0; i < changes.length; i++) {
            EchoLine x = busy();
            changes[i].of(x);
            Check.is("change " + i + " changes something", Check.picture(x).equals(before), false);
            Check.is("undo of change " + i, x.undo(), 5);
            Check.is("all is as it was ahead of change " + i, Check.picture(x), before);
        }
    }

    private static void undoLeavesBuffersErrorAndSlots() {
        EchoLine x = new EchoLine();
        Check.load(x, TWO);
        x.tick(1);
        Check.load(x, "line a cap 3");
        int length = x.writeQueues();
        String output = Check.output(x, length);
        x.tick(1);
        x.keep(1);
        Check.give(x, "b");
        x.undo();
        Check.is("output buffer", Check.output(x, length), output);
        Check.is("error code", x.errorCode(), 2);
        Check.is("error position", x.errorPosition(), 11);
        Check.raisesState("a slot where nothing is kept", () -> x.restore(0));
        Check.is("a slot", x.restore(1), 2);
        Check.is("input buffer", x.find(), 1);
        x.undo();
        x.undo();
        x.undo();
        Check.is("ahead of the load", x.property(0), 1);
        Check.is("error code then", x.errorCode(), 2);
        Check.is("output buffer then", Check.output(x, length), output);
        Check.is("the slot then", x.restore(1), 2);
        Check.is("its lines", x.property(0), 2);
    }

    private static void slots0And1() {
        EchoLine x = new EchoLine();
        Check.raisesState("nothing in 0", () -> x.restore(0));
        Check.raisesState("nothing in 1", () -> x.restore(1));
        Check.is("time", x.keep(1), 0);
        Check.raisesState("nothing in 0 yet", () -> x.restore(0));
        x.tick(5);
        Check.is("time then", x.keep(0), 5);
        x.tick(5);
        Check.is("1", x.restore(1), 0);
        Check.is("time of 1", x.property(1), 0);
        Check.is("0", x.restore(0), 5);
        Check.is("time of 0", x.property(1), 5);
        for (int slot : new int[] {-1, 2, Integer.MAX_VALUE, Integer.MIN_VALUE}) {
            Check.raisesIndex("keep(" + slot + ")", () -> x.keep(slot));
            Check.raisesIndex("restore(" + slot + ")", () -> x.restore(slot));
        }
    }

    private static void slotsAcrossTexts() {
        EchoLine x = new EchoLine();
        x.keep(0);
        Check.load(x, TWO);
        String two = withoutCount(x);
        x.keep(1);
        Check.load(x, "line z cap 4 marks 0 1 share 1;");
        Check.is("a load leaves the slots", x.restore(1), 0);
        Check.is("lines of 1", withoutCount(x), two);
        Check.is("the other one", x.restore(0), 0);
        Check.is("the line without a name", Check.output(x, x.writeQueues()), ":0/0");
        Check.is("loads and restores can be undone", x.undoCount(), 4);
        x.undo();
        Check.is("back to 1", withoutCount(x), two);
        x.undo();
        Check.is("back to z", Check.output(x, x.writeQueues()), "z:0/0");
    }

    private static void aSlotKeepsItAndIsOverwritten() {
        EchoLine x = Check.loaded(TWO);
        x.keep(0);
        String kept = withoutCount(x);
        for (int i = 0; i < 3; i++) {
            x.type(0, 13, 9);
            x.tick(7);
            Check.is("time then", x.restore(0), 0);
            Check.is("it keeps it", withoutCount(x), kept);
        }
        x.tick(3);
        Check.is("in place of what was there", x.keep(0), 3);
        x.tick(3);
        Check.is("the time of the second keep", x.restore(0), 3);
        Check.is("6 at most can be undone", x.undoCount(), 6);
    }

    private static void restoreInTheMiddleOfATurn() {
        EchoLine x = Check.loaded("line a cap 9 marks 0 9 share 3;line b cap 9 marks 0 9 share 3;lend a to b for 5;type b 1 2 3 4;");
        x.keep(0);
        x.tick(1);
        x.keep(1);
        x.tick(20);
        x.restore(1);
        Check.is("left", x.property(4), 2);
        x.pass();
        Check.is("it was a turn with a byte", x.line(0, 10), 4);
        x.restore(0);
        x.pass();
        Check.is("it was a turn without a byte", x.line(0, 10), 5);
    }

    private static void theLastOf512Calls() {
        EchoLine x = new EchoLine();
        for (int i = 0; i < 505; i++) {
            x.tick(200);
        }
        x.type(0, 13, 1);
        x.keep(1);
        x.tick(1);
        Check.is("call 509: time", x.property(1), 101001);
        Check.is("call 510: idle", x.property(6), 101000);
        Check.is("call 511: undo", x.undo(), 5);
        Check.is("call 512: restore", x.restore(1), 101000);
        EchoLine y = new EchoLine();
        for (int i = 0; i < 508; i++) {
            y.type(0, 13, 60);
        }
        Check.is("call 509: typed", y.count(0, 0), 30480);
        Check.is("call 510: dropped", y.sum(2), 30470);
        Check.is("call 511: tick", y.tick(200), 10);
        Check.is("call 512: undo", y.undo(), 5);
        EchoLine z = new EchoLine();
        for (int i = 0; i < 255; i++) {
            z.type(0, 1 + i % 127, 1);
            z.tick(200);
        }
        Check.is("call 511: sent", z.property(5), 255);
        Check.is("call 512: the entry 39", z.logged(39, 0), 215 * 200 + 1);
    }

    private static void manyLoadsAndRestores() {
        EchoLine x = new EchoLine();
        String text = "line a cap 4 marks 0 1 share 1;";
        for (int i = 0; i < 80; i++) {
            Check.is("load", Check.load(x, text), 1);
            Check.is("lines", x.keep(i % 2), 0);
        }
        for (int i = 0; i < 6; i++) {
            x.restore(i % 2);
        }
        Check.is("6", x.undoCount(), 6);
    }
}
