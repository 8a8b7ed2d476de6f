/** Promises 14 to 24: what would be, if only ticks passed, and that asking changes nothing. */
public final class AheadTest {
    private static final String TWO = "line a cap 9 marks 1 8 share 2;line b cap 9 marks 1 8 share 1 echo each;";

    public static void main(String[] args) {
        nextSender();
        sendsIn();
        emptyIn();
        quietIn();
        sentIn();
        deliveredIn();
        room();
        untilStop();
        droppedBy();
        sentIfLent();
        bestBorrower();
        askingChangesNothing();
        Check.finish();
    }

    private static void nextSender() {
        Check.is("empty", new EchoLine().nextSender(), EchoLine.NONE);
        Check.is("b alone", Check.loaded(TWO + "type b 1;").nextSender(), 1);
        Check.is("both", Check.loaded(TWO + "type b 1;type a 1;").nextSender(), 0);
        EchoLine lent = Check.loaded(TWO + "lend a to b for 1;type b 1;type a 1;");
        Check.is("lent", lent.nextSender(), 1);
        lent.breakLine(1, 3);
        Check.is("the borrower is held and empty", lent.nextSender(), EchoLine.NONE);
        EchoLine held = Check.loaded(TWO);
        held.breakLine(0, 2);
        held.type(1, 1, 1);
        Check.is("held", held.nextSender(), 1);
        held.tick(1);
        Check.is("all sent", held.nextSender(), EchoLine.NONE);
        EchoLine starved = Check.loaded(TWO + "lend a to b for 99;type a 1;");
        Check.is("starved", starved.nextSender(), EchoLine.NONE);
    }

    private static void sendsIn() {
        EchoLine x = Check.loaded(TWO + "type a 1 2 3;type b 1 2;");
        Check.is("a", x.sendsIn(0), 1);
        Check.is("b behind two of a", x.sendsIn(1), 3);
        x.tick(3);
        Check.is("b then, behind the last of a", x.sendsIn(1), 2);
        x.tick(2);
        Check.is("a without bytes", x.sendsIn(0), EchoLine.NONE);
        Check.is("b without bytes", x.sendsIn(1), EchoLine.NONE);
        Check.raisesIndex("sendsIn(2)", () -> x.sendsIn(2));
        Check.raisesIndex("sendsIn(-1)", () -> x.sendsIn(-1));
    }

    /** Six lines of capacity 60 that send at most 360 bytes: no line waits for 500 ticks but for ever. */
    private static EchoLine sixFull() {
        StringBuilder text = new StringBuilder();
        for (char name = 'a'; name <= 'f'; name++) {
            text.append("line ").append(name).append(" cap 60 marks 0 60 share 9;");
        }
        EchoLine x = Check.loaded(text.toString());
        for (int line = 0; line < 6; line++) {
            x.type(line, 1 + line, 60);
        }
        return x;
    }

    private static void emptyIn() {
        EchoLine x = Check.loaded(TWO + "type a 1 2 3;type b 1 2;");
        Check.is("a", x.emptyIn(0), 4);
        Check.is("b", x.emptyIn(1), 5);
        x.tick(4);
        Check.is("a then", x.emptyIn(0), 0);
        Check.is("b then", x.emptyIn(1), 1);
        Check.is("one line alone", new EchoLine().emptyIn(0), 0);
        EchoLine full = sixFull();
        Check.is("the last of six full lines", full.emptyIn(5), 360);
        full.lend(5, 0, 99);
        Check.is("a line that lends for ever", full.emptyIn(5), EchoLine.NONE);
        Check.raisesIndex("emptyIn(2)", () -> x.emptyIn(2));
        Check.raisesIndex("emptyIn(-1)", () -> x.emptyIn(-1));
    }

    private static void quietIn() {
        Check.is("at first", new EchoLine().quietIn(), 0);
        EchoLine x = Check.loaded(TWO + "type a 1 2 3;type b 1 2;");
        Check.is("until the last byte is sent", x.quietIn(), 5);
        x.reply(0, 1, 8);
        Check.is("until the last byte is delivered", x.quietIn(), 8);
        x.setPaused(0, true);
        Check.is("never while paused", x.quietIn(), EchoLine.NONE);
        EchoLine held = Check.loaded(TWO);
        held.breakLine(0, 50);
        Check.is("held lines are quiet", held.quietIn(), 0);
        EchoLine echoes = Check.loaded(TWO + "type b 1 2 3 4;");
        echoes.tick(2);
        echoes.breakLine(0, 9);
        Check.is("another line is held", echoes.quietIn(), 2);
    }

    private static void sentIn() {
        EchoLine x = Check.loaded(TWO + "type a 1 2 3;type b 1 2;");
        int[] a = {0, 1, 2, 2, 3, 3};
        int[] b = {0, 0, 0, 1, 1, 2};
        for (int ticks = 0; ticks < a.length; ticks++) {
            Check.is("a in " + ticks, x.sentIn(0, ticks), a[ticks]);
            Check.is("b in " + ticks, x.sentIn(1, ticks), b[ticks]);
        }
        x.tick(1);
        Check.is("those sent before do not count", x.sentIn(0, 500), 2);
        Check.is("the last of six in 500", sixFull().sentIn(5, 500), 60);
        Check.raisesArgument("sentIn(0, 501)", () -> x.sentIn(0, 501));
        Check.raisesArgument("sentIn(0, -1)", () -> x.sentIn(0, -1));
        Check.raisesIndex("sentIn(2, 501)", () -> x.sentIn(2, 501));
        Check.raisesIndex("sentIn(-1, 1)", () -> x.sentIn(-1, 1));
    }

    private static void deliveredIn() {
        EchoLine x = Check.loaded(TWO + "type b 1 2 3;");
        Check.is("in 0", x.deliveredIn(1, 0), 0);
        Check.is("in 2", x.deliveredIn(1, 2), 2);
        Check.is("in 500", x.deliveredIn(1, 500), 3);
        x.tick(1);
        Check.is("in 500 then", x.deliveredIn(1, 500), 2);
        x.setPaused(1, true);
        Check.is("paused", x.deliveredIn(1, 500), 0);
        Check.is("nothing in OUT", x.deliveredIn(0, 500), 0);
        Check.raisesArgument("deliveredIn(0, 501)", () -> x.deliveredIn(0, 501));
        Check.raisesArgument("deliveredIn(0, -1)", () -> x.deliveredIn(0, -1));
        Check.raisesIndex("deliveredIn(2, -1)", () -> x.deliveredIn(2, -1));
        Check.raisesIndex("deliveredIn(-1, 1)", () -> x.deliveredIn(-1, 1));
    }

    private static void room() {
        EchoLine x = Check.loaded(TWO + "type a 1 2 3;");
        Check.is("a", x.room(0), 6);
        Check.is("b", x.room(1), 9);
        x.type(0, 1, 10);
        Check.is("full", x.room(0), 0);
        x.breakLine(0, 1);
        Check.is("held", x.room(0), 0);
        x.tick(1);
        Check.is("held no more", x.room(0), 9);
        Check.raisesIndex("room(2)", () -> x.room(2));
        Check.raisesIndex("room(-1)", () -> x.room(-1));
    }

    private static void untilStop() {
        EchoLine x = Check.loaded(TWO + "type a 1 2 3;");
        Check.is("a", x.untilStop(0), 5);
        Check.is("b", x.untilStop(1), 8);
        x.type(0, 1, 4);
        Check.is("one more", x.untilStop(0), 1);
        x.type(0, 1, 1);
        Check.is("stopping", x.untilStop(0), 0);
        x.tick(3);
        Check.is("stopping still, below the high mark", x.untilStop(0), 0);
        x.breakLine(0, 1);
        Check.is("held", x.untilStop(0), 0);
        x.tick(1);
        Check.is("held no more", x.untilStop(0), 8);
        Check.raisesIndex("untilStop(2)", () -> x.untilStop(2));
        Check.raisesIndex("untilStop(-1)", () -> x.untilStop(-1));
    }

    private static void droppedBy() {
        EchoLine x = Check.loaded("line a cap 4 marks 1 3 share 1;line b cap 60 marks 1 3 share 9;type b" + " 1".repeat(30) + ";");
        Check.is("a has room yet", x.droppedBy(0, 4), 0);
        // a sends in the ticks 1, 11 and 21, b in those between.
        Check.is("a is full behind 5", x.droppedBy(0, 5), 0);
        Check.is("the 6th finds no room", x.droppedBy(0, 6), 1);
        Check.is("by 12", x.droppedBy(0, 12), 6);
        x.breakLine(0, 3);
        Check.is("held for 2 typings yet and the first", x.droppedBy(0, 1), 1);
        Check.is("held: 3 are dropped", x.droppedBy(0, 4), 3);
        Check.is("a line alone keeps up", new EchoLine().droppedBy(0, 500), 0);
        Check.raisesArgument("droppedBy(0, 0)", () -> x.droppedBy(0, 0));
        Check.raisesArgument("droppedBy(0, 501)", () -> x.droppedBy(0, 501));
        Check.raisesIndex("droppedBy(2, 0)", () -> x.droppedBy(2, 0));
        Check.raisesIndex("droppedBy(-1, 1)", () -> x.droppedBy(-1, 1));
        EchoLine lender = Check.loaded(TWO + "lend a to b for 1;");
        Check.is("a line that lends for ever", lender.droppedBy(0, 500), 491);
    }

    private static void sentIfLent() {
        EchoLine x = Check.loaded(TWO + "type a 1 2 3 4;type b 1 2 3 4;");
        Check.is("lent, a waits for ever", x.sentIfLent(0, 1), 0);
        Check.is("b sends what a leaves", x.sentIfLent(1, 0), 0);
        x.lend(1, 0, 1);
        Check.is("a sends in b's turns alone", x.sentIfLent(0, 1), 1);
        Check.is("it lends as before", x.line(0, 9), EchoLine.NONE);
        x.tick(2);
        Check.is("those sent before do not count", x.sentIfLent(0, 1), 1);
        Check.raisesArgument("sentIfLent(0, 0)", () -> x.sentIfLent(0, 0));
        Check.raisesIndex("sentIfLent(2, 0)", () -> x.sentIfLent(2, 0));
        Check.raisesIndex("sentIfLent(0, 2)", () -> x.sentIfLent(0, 2));
        Check.raisesIndex("sentIfLent(2, 2)", () -> x.sentIfLent(2, 2));
        Check.raisesIndex("sentIfLent(0, -1)", () -> x.sentIfLent(0, -1));
        EchoLine many = sixFull();
        many.lend(1, 0, 99);
        // In 100 ticks there are two rounds of 54: a sends 9 in b's first turn (at 10 to 18) and in its second.
        Check.is("within 100 ticks", many.sentIfLent(0, 5), 18);
        EchoLine edge = Check.loaded("line a cap 60 marks 0 60 share 9;line b cap 60 marks 0 60 share 1;"
            + "line c cap 60 marks 0 60 share 9;lend c to a for 99;");
        edge.type(0, 1, 60);
        edge.type(1, 1, 60);
        edge.pass();
        // A round is 1 byte of b, 9 of a in c's turn, 9 of b in a's turn: 5 rounds are 95 ticks, and 5 are left.
        Check.is("in 100 ticks, not more nor less", edge.sentIfLent(0, 1), 49);
    }

    private static void bestBorrower() {
        Check.is("alone", new EchoLine().bestBorrower(0), EchoLine.NONE);
        Check.is("all are equal", Check.loaded(TWO + "line c cap 9 marks 1 8 share 1;").bestBorrower(0), 1);
        EchoLine x = Check.loaded(TWO + "line c cap 9 marks 1 8 share 1;type a 1;type b 2;type c 3;");
        Check.is("each leaves a out: the lowest", x.bestBorrower(0), 1);
        Check.is("the lowest that is not itself", x.bestBorrower(1), 0);
        x.lend(2, 0, 99);
        Check.is("a sends in c's turns, c in a's", x.bestBorrower(0), 2);
        Check.raisesIndex("bestBorrower(3)", () -> x.bestBorrower(3));
        Check.raisesIndex("bestBorrower(-1)", () -> x.bestBorrower(-1));
    }

    private static void askingChangesNothing() {
        EchoLine x = Check.loaded(TWO + "lend b to a for 3;type a 1 2 3 4 5;type b 1 2 3 4;");
        x.tick(3);
        String before = Check.picture(x);
        x.nextSender();
        x.sendsIn(1);
        x.emptyIn(1);
        x.quietIn();
        x.sentIn(1, 500);
        x.deliveredIn(1, 500);
        x.room(1);
        x.untilStop(1);
        x.droppedBy(1, 500);
        x.sentIfLent(0, 1);
        x.bestBorrower(0);
        Check.is("the state", Check.picture(x), before);
        Check.is("what can be undone", x.undoCount(), 2);
    }
}
