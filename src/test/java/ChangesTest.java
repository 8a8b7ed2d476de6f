/** Promises 32 to 42: the calls that change the lines and the turn. */
public final class ChangesTest {
    private static final String TWO = "line a cap 6 marks 1 4 share 2;line b cap 4 marks 0 2 share 1 echo each;";

    public static void main(String[] args) {
        type();
        reply();
        tick();
        tickLooksAtEachLineOnce();
        heldAndPaused();
        lend();
        lentTurns();
        recall();
        breakLine();
        setPaused();
        setEcho();
        setMarks();
        setShare();
        pass();
        refusedCallsChangeNothing();
        Check.finish();
    }

    private static void type() {
        EchoLine x = Check.loaded(TWO);
        Check.is("all come to IN", x.type(0, 1, 6), 0);
        Check.is("the last is dropped", x.type(1, 127, 5), 1);
        Check.is("all are dropped", x.type(0, 3, 60), 60);
        Check.is("typed", x.count(0, 0), 66);
        Check.is("dropped", x.count(0, 2), 60);
        Check.is("a dropped byte is not echoed", x.count(1, 4), 4);
        Check.is("the byte", x.queued(1, true, 3), 127);
        x.breakLine(1, 1);
        Check.is("held", x.type(1, 1, 2), 2);
        Check.raisesIndex("type(2, 0, 0)", () -> x.type(2, 0, 0));
        Check.raisesIndex("type(-1, 1, 1)", () -> x.type(-1, 1, 1));
        Check.raisesArgument("type(0, 0, 1)", () -> x.type(0, 0, 1));
        Check.raisesArgument("type(0, 128, 1)", () -> x.type(0, 128, 1));
        Check.raisesArgument("type(0, 1, 0)", () -> x.type(0, 1, 0));
        Check.raisesArgument("type(0, 1, 61)", () -> x.type(0, 1, 61));
        EchoLine echoes = Check.loaded(TWO);
        echoes.reply(1, 9, 3);
        Check.is("IN is not full, OUT is", echoes.type(1, 5, 3), 0);
        Check.is("echoes are dropped at OUT", echoes.count(1, 6), 2);
    }

    private static void reply() {
        EchoLine x = Check.loaded(TWO);
        Check.is("all come to OUT", x.reply(0, 1, 6), 0);
        Check.is("OUT is full", x.reply(0, 1, 60), 60);
        Check.is("one finds no room", x.reply(1, 127, 5), 1);
        Check.is("offered", x.count(1, 4), 5);
        Check.is("dropped at OUT", x.count(1, 6), 1);
        Check.is("not typed", x.count(1, 0), 0);
        Check.is("not dropped at IN", x.count(1, 2), 0);
        x.breakLine(1, 1);
        Check.is("held", x.reply(1, 1, 2), 2);
        Check.raisesIndex("reply(2, 0, 0)", () -> x.reply(2, 0, 0));
        Check.raisesIndex("reply(-1, 1, 1)", () -> x.reply(-1, 1, 1));
        Check.raisesArgument("reply(0, 0, 1)", () -> x.reply(0, 0, 1));
        Check.raisesArgument("reply(0, 128, 1)", () -> x.reply(0, 128, 1));
        Check.raisesArgument("reply(0, 1, 0)", () -> x.reply(0, 1, 0));
        Check.raisesArgument("reply(0, 1, 61)", () -> x.reply(0, 1, 61));
    }

    private static void tick() {
        EchoLine x = Check.loaded(TWO + "type a 1 2 3;type b 4 5;");
        Check.is("one byte a tick", x.tick(4), 4);
        Check.is("the rest", x.tick(200), 1);
        Check.is("time", x.property(1), 204);
        Check.is("idle", x.property(6), 199);
        Check.is("order", Check.output(x, x.writeLog()), "00101");
        Check.is("nothing to send", x.tick(1), 0);
        Check.raisesArgument("tick(0)", () -> x.tick(0));
        Check.raisesArgument("tick(201)", () -> x.tick(201));
        Check.raisesArgument("tick(-1)", () -> x.tick(-1));
    }

    private static void tickLooksAtEachLineOnce() {
        EchoLine x = Check.loaded(TWO + "line c cap 4 marks 0 2 share 3;type c 9 9;");
        x.tick(1);
        Check.is("c has the turn", x.property(2), 2);
        Check.is("2 are left", x.property(4), 2);
        x.tick(1);
        x.tick(1);
        Check.is("an idle tick comes round to the same line", x.property(2), 2);
        Check.is("with all of its share", x.property(4), 3);
        x.type(0, 1, 1);
        x.tick(1);
        Check.is("a sends 1 of 2", x.property(4), 1);
        x.tick(1);
        Check.is("and loses the turn without a byte", x.property(4), 2);
        Check.is("a sits behind its own round", x.property(2), 0);
    }

    private static void heldAndPaused() {
        EchoLine x = Check.loaded(TWO + "type a 1;");
        x.breakLine(1, 2);
        x.tick(1);
        x.type(1, 1, 1);
        x.tick(1);
        Check.is("a break of 2 ends with the 2nd tick", x.property(7), 0);
        Check.is("what was typed while held was dropped", x.count(1, 1), 0);
        x.setPaused(1, true);
        x.type(1, 66, 2);
        Check.is("a paused line sends", x.tick(2), 2);
        Check.is("but nothing is delivered to it", x.count(1, 5), 0);
        x.setPaused(1, false);
        x.tick(1);
        Check.is("until it is paused no more", x.count(1, 5), 1);
        EchoLine one = new EchoLine();
        one.type(0, 1, 1);
        one.breakLine(0, 1);
        one.tick(1);
        one.type(0, 2, 1);
        Check.is("one line alone goes on", one.tick(1), 1);
    }

    private static void lend() {
        EchoLine x = Check.loaded(TWO + "line c cap 4 marks 0 2 share 3;type a 1 2;type b 3 4;type c 5;");
        Check.is("it did not lend", x.lend(0, 1, 99), EchoLine.NONE);
        Check.is("at once", x.property(3), 1);
        Check.is("the turn stays", x.property(2), 0);
        Check.is("lent to b before", x.lend(0, 2, 1), 1);
        Check.is("at once to c", x.property(3), 2);
        Check.is("turns are those of the latest call", x.line(0, 10), 1);
        Check.is("another line", x.lend(1, 0, 5), EchoLine.NONE);
        Check.is("set of lenders", x.property(10), 3);
        x.tick(1);
        Check.is("c sent in a's turn", x.count(2, 10), 1);
        Check.is("the bytes left are of a's share", x.property(4), 1);
        Check.raisesIndex("lend(3, 3, 0)", () -> x.lend(3, 3, 0));
        Check.raisesIndex("lend(0, 3, 1)", () -> x.lend(0, 3, 1));
        Check.raisesIndex("lend(0, -1, 1)", () -> x.lend(0, -1, 1));
        Check.raisesIndex("lend(-1, 0, 1)", () -> x.lend(-1, 0, 1));
        Check.raisesArgument("lend(1, 1, 1)", () -> x.lend(1, 1, 1));
        Check.raisesArgument("lend(0, 1, 0)", () -> x.lend(0, 1, 0));
        Check.raisesArgument("lend(0, 1, 100)", () -> x.lend(0, 1, 100));
    }

    private static void lentTurns() {
        EchoLine x = Check.loaded(TWO + "lend b to a for 2;type a 1 2 3 4 5 6;");
        x.tick(3);
        Check.is("one turn less", x.line(1, 10), 1);
        x.tick(3);
        Check.is("no more turns", x.line(1, 10), 0);
        Check.is("no more lends to", x.line(1, 9), EchoLine.NONE);
        Check.is("it is the sender again", x.property(10), 0);
        EchoLine idle = Check.loaded(TWO + "lend b to a for 2;");
        idle.tick(9);
        Check.is("turns without a byte do not count", idle.line(1, 10), 2);
        EchoLine middle = Check.loaded(TWO + "type a 1 2 3;");
        middle.tick(1);
        middle.lend(0, 1, 7);
        middle.pass();
        Check.is("a byte was sent in this turn, ahead of the lend", middle.line(0, 10), 6);
        middle.pass();
        middle.pass();
        Check.is("none was in that one", middle.line(0, 10), 6);
        EchoLine chain = Check.loaded(TWO + "line c cap 4 marks 0 2 share 3;lend a to b for 9;lend b to c for 9;type b 1;");
        chain.tick(1);
        Check.is("the borrower sends in a's turn, though it lends", chain.logged(0, 1), 1);
    }

    private static void recall() {
        EchoLine x = Check.loaded(TWO + "lend a to b for 7;type a 1;");
        Check.is("nothing was sent", x.tick(1), 0);
        Check.is("7 turns", x.recall(0), 7);
        Check.is("at once", x.property(3), 0);
        Check.is("lends to no one", x.line(0, 9), EchoLine.NONE);
        Check.is("no turns", x.line(0, 10), 0);
        Check.is("none again", x.recall(0), 0);
        Check.is("a sends", x.tick(1), 1);
        Check.is("both count", x.undoCount(), 5);
        Check.raisesIndex("recall(2)", () -> x.recall(2));
        Check.raisesIndex("recall(-1)", () -> x.recall(-1));
    }

    private static void breakLine() {
        EchoLine x = Check.loaded("line a cap 9 marks 1 4 share 2 echo whole;type a 1 2 13 4 5;");
        Check.is("IN and OUT", x.breakLine(0, 50), 8);
        Check.is("broken", x.count(0, 3), 5);
        Check.is("broken at OUT", x.count(0, 7), 3);
        Check.is("breaks", x.count(0, 9), 1);
        int[] due = {9, 1, 4, 2, 2, 0, 0, 0, 50, -1, 0};
        for (int what = 0; what < due.length; what++) {
            Check.is("line(0, " + what + ")", x.line(0, what), due[what]);
        }
        Check.is("stopping no more", x.property(8), 0);
        Check.is("nothing to break", x.breakLine(0, 1), 0);
        Check.is("in place of what was left", x.line(0, 8), 1);
        Check.is("breaks then", x.count(0, 9), 2);
        Check.raisesIndex("breakLine(1, 0)", () -> x.breakLine(1, 0));
        Check.raisesIndex("breakLine(-1, 1)", () -> x.breakLine(-1, 1));
        Check.raisesArgument("breakLine(0, 0)", () -> x.breakLine(0, 0));
        Check.raisesArgument("breakLine(0, 51)", () -> x.breakLine(0, 51));
    }

    private static void setPaused() {
        EchoLine x = Check.loaded(TWO);
        Check.is("not before", x.setPaused(1, true), false);
        Check.is("set", x.property(9), 2);
        Check.is("before", x.setPaused(1, true), true);
        Check.is("before, then not", x.setPaused(1, false), true);
        Check.is("not any more", x.setPaused(1, false), false);
        Check.is("set then", x.property(9), 0);
        Check.is("each can be undone", x.undoCount(), 5);
        Check.raisesIndex("setPaused(2, true)", () -> x.setPaused(2, true));
        Check.raisesIndex("setPaused(-1, false)", () -> x.setPaused(-1, false));
    }

    private static void setEcho() {
        EchoLine x = Check.loaded("line a cap 9 marks 1 4 share 2 echo whole;type a 1 2;");
        Check.is("whole before", x.setEcho(0, 2), 2);
        Check.is("the whole is empty, with the same echo too", x.line(0, 7), 0);
        x.type(0, 3, 1);
        Check.is("to each", x.setEcho(0, 1), 2);
        x.type(0, 4, 1);
        Check.is("echoed", x.line(0, 6), 1);
        Check.is("to whole again", x.setEcho(0, 2), 1);
        x.type(0, 13, 1);
        Check.is("nothing of before", x.line(0, 6), 2);
        Check.is("to none", x.setEcho(0, 0), 2);
        x.type(0, 13, 1);
        Check.is("no echo", x.line(0, 6), 2);
        Check.is("none before", x.setEcho(0, 0), 0);
        Check.raisesIndex("setEcho(1, 3)", () -> x.setEcho(1, 3));
        Check.raisesIndex("setEcho(-1, 0)", () -> x.setEcho(-1, 0));
        Check.raisesArgument("setEcho(0, 3)", () -> x.setEcho(0, 3));
        Check.raisesArgument("setEcho(0, -1)", () -> x.setEcho(0, -1));
    }

    private static void setMarks() {
        EchoLine x = Check.loaded("line a cap 60 marks 59 60 share 2;type a 1 2 3;");
        Check.is("marks before", x.setMarks(0, 0, 3), 5960);
        Check.is("stopping with the high mark", x.property(8), 1);
        Check.is("a begin is a stop", x.count(0, 8), 1);
        Check.is("between the marks", x.setMarks(0, 2, 9), 3);
        Check.is("as before", x.property(8), 1);
        x.setMarks(0, 0, 1);
        Check.is("no second stop", x.count(0, 8), 1);
        x.setMarks(0, 3, 60);
        Check.is("not with the low mark", x.property(8), 0);
        x.setMarks(0, 2, 60);
        Check.is("not as before", x.property(8), 0);
        x.setMarks(0, 0, 1);
        Check.is("a second stop", x.count(0, 8), 2);
        x.setMarks(0, 4, 5);
        Check.is("not below the low mark", x.property(8), 0);
        Check.raisesIndex("setMarks(1, -1, 0)", () -> x.setMarks(1, -1, 0));
        Check.raisesIndex("setMarks(-1, 0, 1)", () -> x.setMarks(-1, 0, 1));
        Check.raisesArgument("setMarks(0, -1, 1)", () -> x.setMarks(0, -1, 1));
        Check.raisesArgument("setMarks(0, 60, 61)", () -> x.setMarks(0, 60, 61));
        Check.raisesArgument("setMarks(0, 60, 60)", () -> x.setMarks(0, 60, 60));
        Check.raisesArgument("setMarks(0, 59, 61)", () -> x.setMarks(0, 59, 61));
        Check.raisesArgument("setMarks(0, 5, 5)", () -> x.setMarks(0, 5, 5));
        Check.raisesArgument("setMarks(0, greatest, least)",
            () -> x.setMarks(0, Integer.MAX_VALUE, Integer.MIN_VALUE));
        Check.is("marks at the edge", x.setMarks(0, 59, 60), 405);
    }

    private static void setShare() {
        EchoLine x = Check.loaded(TWO + "type a 1 2 3 4;");
        Check.is("share before", x.setShare(0, 9), 2);
        Check.is("bytes left stay", x.property(4), 2);
        x.tick(2);
        Check.is("the turn passes on as before", x.property(2), 1);
        x.tick(1);
        Check.is("the next turn has the new share", x.property(4), 8);
        Check.is("share before then", x.setShare(0, 1), 9);
        Check.raisesIndex("setShare(2, 0)", () -> x.setShare(2, 0));
        Check.raisesIndex("setShare(-1, 1)", () -> x.setShare(-1, 1));
        Check.raisesArgument("setShare(0, 0)", () -> x.setShare(0, 0));
        Check.raisesArgument("setShare(0, 10)", () -> x.setShare(0, 10));
    }

    private static void pass() {
        EchoLine x = Check.loaded(TWO + "line c cap 4 marks 0 2 share 3;lend a to b for 3;type b 1 2;");
        Check.is("to b", x.pass(), 1);
        Check.is("with b's share", x.property(4), 1);
        Check.is("to c", x.pass(), 2);
        Check.is("behind the last to the first", x.pass(), 0);
        Check.is("no byte was sent", x.line(0, 10), 3);
        x.tick(1);
        x.pass();
        Check.is("a byte was sent", x.line(0, 10), 2);
        Check.is("time stays", x.property(1), 1);
        Check.is("one line alone", new EchoLine().pass(), 0);
    }

    private static void refusedCallsChangeNothing() {
        EchoLine x = Check.loaded(TWO + "type a 1 2;type b 3;lend b to a for 2;");
        x.tick(1);
        String before = Check.picture(x);
        Check.Call[] calls = {() -> x.type(0, 128, 1), () -> x.type(0, 1, 61), () -> x.reply(0, 1, 61), () -> x.tick(201),
            () -> x.lend(0, 0, 1), () -> x.lend(0, 1, 100), () -> x.breakLine(0, 51), () -> x.setEcho(1, 3),
            () -> x.setMarks(0, 1, 7), () -> x.setMarks(0, 6, 7), () -> x.setShare(0, 10), () -> x.truncate(1)};
        for (int i = 0; i < calls.length; i++) {
            Check.raisesArgument("refused call " + i, calls[i]);
        }
        Check.Call[] others = {() -> x.type(2, 1, 1), () -> x.reply(2, 1, 1), () -> x.lend(0, 2, 1), () -> x.recall(2),
            () -> x.breakLine(2, 1), () -> x.setPaused(2, true), () -> x.setEcho(2, 1), () -> x.setMarks(2, 1, 2),
            () -> x.setShare(2, 1), () -> x.keep(2), () -> x.restore(2)};
        for (int i = 0; i < others.length; i++) {
            Check.raisesIndex("refused call of no line " + i, others[i]);
        }
        Check.raisesState("restore(1)", () -> x.restore(1));
        Check.is("the state", Check.picture(x), before);
    }
}
