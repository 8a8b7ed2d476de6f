/** The edges of section 2 and of what asks for lines or changes them: queues, wholes, marks, breaks, echoes, counts. */
public final class LineEdgesTest {
    private static final int[] CAPACITIES = {4, 5, 10, 59, 60};

    public static void main(String[] args) {
        lineOfANewObject();
        inAtItsCapacity();
        outAtItsCapacity();
        emptyQueues();
        echoesAtAFullOut();
        droppedBytesAreNotEchoed();
        heldLinesDropAll();
        valuesFrom1To127();
        wholeOfAtMost60();
        wholeAtEachLength();
        wholeAtAFullOut();
        wholeBegins();
        wholeIsNotKeptWithAnotherEcho();
        marksAtTheirEdges();
        manyBytesOverTheHighMark();
        setMarksAtTheNumberInIn();
        untilStopAtTheHighMark();
        roomAtTheCapacity();
        breakOfEmptyAndFullQueues();
        breakEndsWithItsLastTick();
        breakInPlaceOfWhatWasLeft();
        deliveredAtTheEnd();
        countsAtTheirFirstByte();
        setsOfAllAndOfNone();
        fullestAndItsTies();
        sixLinesInATick();
        sumsOf1To6Lines();
        linesThatAreNoMoreDoNotCount();
        manyTypings();
        Check.finish();
    }

    private static EchoLine one(int cap, int low, int high, String echo) {
        return Check.loaded("line a cap " + cap + " marks " + low + " " + high + " share 9 echo " + echo + ";");
    }

    /** Before the first successful load() there is one line. */
    private static void lineOfANewObject() {
        EchoLine x = new EchoLine();
        Check.is("one line", x.property(0), 1);
        Check.raisesIndex("no second one", () -> x.line(1, 0));
        Check.is("10 bytes", x.type(0, 1, 7), 0);
        Check.is("not stopping with 7", x.property(8), 0);
        Check.is("the 8th", x.type(0, 1, 1), 0);
        Check.is("stopping with the high mark 8", x.property(8), 1);
        Check.is("the 9th and the 10th", x.type(0, 1, 2), 0);
        Check.is("the 11th", x.type(0, 1, 1), 1);
        Check.is("without echo", x.count(0, 4), 0);
        Check.is("OUT holds 10", x.reply(0, 2, 11), 1);
        x.tick(7);
        Check.is("stopping with 3", x.property(8), 1);
        x.tick(1);
        Check.is("not with the low mark 2", x.property(8), 0);
        Check.is("a load with an error leaves it", Check.load(x, "line a"), EchoLine.PARSE_ERROR);
        Check.is("its capacity", x.line(0, 0), 10);
        Check.is("it has no name", Check.output(x, x.writeQueues()), ":2/2");
    }

    private static void inAtItsCapacity() {
        for (int cap : CAPACITIES) {
            EchoLine x = one(cap, 0, cap, "none");
            Check.is("up to the last but one", x.type(0, 1, cap - 1), 0);
            Check.is("room for one", x.room(0), 1);
            Check.is("the last one", x.type(0, 2, 1), 0);
            Check.is("IN is as long as the capacity " + cap, x.line(0, 5), cap);
            Check.is("its last byte", x.queued(0, false, cap - 1), 2);
            Check.raisesIndex("there is none behind", () -> x.queued(0, false, cap));
            Check.is("one more is dropped", x.type(0, 3, 1), 1);
            Check.is("IN is not longer", x.line(0, 5), cap);
            Check.is("the last byte stays", x.queued(0, false, cap - 1), 2);
            Check.is("it is typed", x.count(0, 0), cap + 1);
            Check.is("it is dropped", x.count(0, 2), 1);
            x.tick(1);
            Check.is("one finds room again, the next does not", x.type(0, 4, 2), 1);
            Check.is("it is the last", x.queued(0, false, cap - 1), 4);
            EchoLine y = one(cap, 0, cap, "none");
            Check.is("one more than the capacity at once", y.type(0, 1, Math.min(60, cap + 1)), cap < 60 ? 1 : 0);
            Check.is("60 at once", one(cap, 0, cap, "none").type(0, 1, 60), 60 - cap);
        }
    }

    private static void outAtItsCapacity() {
        for (int cap : CAPACITIES) {
            EchoLine x = one(cap, 0, cap, "none");
            Check.is("up to the last but one", x.reply(0, 1, cap - 1), 0);
            Check.is("the last one", x.reply(0, 2, 1), 0);
            Check.is("OUT is as long as the capacity " + cap, x.line(0, 6), cap);
            Check.is("its last byte", x.queued(0, true, cap - 1), 2);
            Check.raisesIndex("there is none behind", () -> x.queued(0, true, cap));
            Check.is("one more is dropped", x.reply(0, 3, 1), 1);
            Check.is("OUT is not longer", x.line(0, 6), cap);
            Check.is("the last byte stays", x.queued(0, true, cap - 1), 2);
            Check.is("it is offered", x.count(0, 4), cap + 1);
            Check.is("it is dropped there", x.count(0, 6), 1);
            Check.is("and not at IN", x.count(0, 2), 0);
            Check.is("OUT does not take room of IN", x.room(0), cap);
            Check.is("nor does it stop the line", x.property(8), 0);
            x.tick(1);
            Check.is("one finds room again, the next does not", x.reply(0, 4, 2), 1);
            Check.is("it is the last", x.queued(0, true, cap - 1), 4);
        }
    }

    private static void emptyQueues() {
        EchoLine x = one(4, 1, 3, "each");
        for (boolean out : new boolean[] {false, true}) {
            Check.raisesIndex("the first byte of an empty queue", () -> x.queued(0, out, 0));
            x.type(0, 65, 1);
            Check.is("the only byte", x.queued(0, out, 0), 65);
            Check.raisesIndex("the one behind it", () -> x.queued(0, out, 1));
            Check.raisesIndex("the one ahead of it", () -> x.queued(0, out, -1));
            x.tick(1);
            Check.raisesIndex("a queue that is empty again", () -> x.queued(0, out, 0));
        }
    }

    private static void echoesAtAFullOut() {
        EchoLine x = one(4, 0, 4, "each");
        x.reply(0, 9, 3);
        Check.is("IN takes both", x.type(0, 1, 2), 0);
        Check.is("both are offered", x.count(0, 4), 5);
        Check.is("one finds room", x.queued(0, true, 3), 1);
        Check.is("one is dropped there", x.count(0, 6), 1);
        Check.is("none is dropped at IN", x.count(0, 2), 0);
    }

    private static void droppedBytesAreNotEchoed() {
        EchoLine x = one(4, 0, 4, "each");
        x.type(0, 1, 4);
        x.tick(4);
        x.type(0, 1, 3);
        Check.is("3 of OUT", x.line(0, 6), 3);
        Check.is("the 4th comes, the 5th is dropped", x.type(0, 2, 2), 1);
        Check.is("the dropped one is not offered", x.count(0, 4), 8);
        Check.is("nor dropped at OUT", x.count(0, 6), 0);
    }

    private static void heldLinesDropAll() {
        for (String echo : new String[] {"none", "each", "whole"}) {
            EchoLine x = one(4, 0, 4, echo);
            x.breakLine(0, 1);
            Check.is("typed while held", x.type(0, 13, 3), 3);
            Check.is("offered while held", x.reply(0, 13, 4), 4);
            Check.is("IN is empty", x.line(0, 5), 0);
            Check.is("OUT is empty", x.line(0, 6), 0);
            Check.is("typed", x.count(0, 0), 3);
            Check.is("dropped", x.count(0, 2), 3);
            Check.is("offered, without an echo", x.count(0, 4), 4);
            Check.is("dropped at OUT", x.count(0, 6), 4);
            Check.is("no whole", x.line(0, 7), 0);
        }
    }

    private static void valuesFrom1To127() {
        EchoLine x = one(60, 0, 60, "each");
        for (int value : new int[] {1, 2, 12, 13, 14, 126, 127}) {
            x.type(0, value, 1);
            x.reply(0, value, 1);
            Check.is("value " + value + " in IN", x.queued(0, false, 0), value);
            Check.is("value " + value + " in OUT", x.queued(0, true, 0), value);
            Check.is("value " + value + " in OUT by reply", x.queued(0, true, 1), value);
            x.tick(2);
            Check.is("value " + value + " in the log", x.logged(0, 3), value);
            Check.is("value " + value + " delivered", x.delivered(0), value);
        }
    }

    /** A whole line that has got so many bytes since the latest 13, though its capacity is less. */
    private static EchoLine withWhole(int cap, int bytes) {
        EchoLine x = one(cap, 0, cap, "whole");
        for (int i = 0; i < bytes; i++) {
            x.type(0, 20 + i, 1);
            if (x.line(0, 5) == cap) {
                x.tick(cap);
            }
        }
        return x;
    }

    private static void wholeOfAtMost60() {
        for (int bytes : new int[] {0, 1, 58, 59, 60, 61, 62, 99}) {
            EchoLine x = withWhole(60, bytes);
            int whole = Math.min(60, bytes);
            Check.is("whole behind " + bytes, x.line(0, 7), whole);
            Check.is("nothing is offered yet", x.count(0, 4), 0);
            x.tick(60);
            Check.is("13", x.type(0, 13, 1), 0);
            int offered = Math.min(60, whole + 1);
            Check.is("offered behind " + bytes + " and 13", x.count(0, 4), offered);
            Check.is("none is dropped there", x.count(0, 6), 0);
            Check.is("the whole is empty then", x.line(0, 7), 0);
            Check.is("the last one behind " + bytes, x.queued(0, true, offered - 1), bytes >= 60 ? 79 : 13);
            if (bytes > 0) {
                Check.is("the first one behind " + bytes, x.queued(0, true, 0), 20);
            }
        }
    }

    private static void wholeAtEachLength() {
        EchoLine x = one(60, 0, 60, "whole");
        for (int length = 0; length < 8; length++) {
            int before = x.count(0, 4);
            if (length > 0) {
                x.type(0, 65, length);
            }
            Check.is("whole of " + length, x.line(0, 7), length);
            x.type(0, 13, 1);
            Check.is("its own 13 is one of them", x.count(0, 4) - before, length + 1);
            Check.is("the next one begins without it", x.line(0, 7), 0);
        }
    }

    private static void wholeAtAFullOut() {
        EchoLine x = withWhole(4, 8);
        Check.is("whole", x.line(0, 7), 8);
        x.reply(0, 99, 1);
        x.type(0, 13, 1);
        Check.is("all are offered", x.count(0, 4), 10);
        Check.is("those behind the capacity are dropped there", x.count(0, 6), 6);
        int[] due = {99, 20, 21, 22};
        for (int i = 0; i < due.length; i++) {
            Check.is("one after the other " + i, x.queued(0, true, i), due[i]);
        }
        Check.is("the whole is empty, also of what was dropped there", x.line(0, 7), 0);
        EchoLine y = withWhole(4, 4);
        y.reply(0, 99, 4);
        y.type(0, 13, 1);
        Check.is("OUT is full: all of the whole are dropped there", y.count(0, 6), 5);
        Check.is("whole then", y.line(0, 7), 0);
    }

    private static void wholeBegins() {
        EchoLine x = one(4, 0, 4, "whole");
        x.type(0, 65, 4);
        Check.is("a 13 that is dropped", x.type(0, 13, 1), 1);
        Check.is("does not end the whole", x.line(0, 7), 4);
        Check.is("nothing is offered", x.count(0, 4), 0);
        Check.is("a byte that is dropped", x.type(0, 66, 1), 1);
        Check.is("does not come to the whole", x.line(0, 7), 4);
        x.tick(4);
        Check.is("bytes that were sent are of the whole yet", x.line(0, 7), 4);
        x.breakLine(0, 1);
        Check.is("a break empties it", x.line(0, 7), 0);
        x.tick(1);
        x.type(0, 13, 1);
        Check.is("it begins again behind a break", x.count(0, 4), 1);
        x.type(0, 12, 1);
        x.type(0, 14, 1);
        Check.is("12 and 14 end nothing", x.line(0, 7), 2);
        x.setEcho(0, 2);
        Check.is("setEcho empties it, also with the same echo", x.line(0, 7), 0);
    }

    private static void wholeIsNotKeptWithAnotherEcho() {
        EchoLine x = one(9, 0, 9, "none");
        x.type(0, 65, 2);
        Check.is("none: 0", x.line(0, 7), 0);
        x.setEcho(0, 1);
        x.type(0, 66, 2);
        Check.is("each: 0", x.line(0, 7), 0);
        x.setEcho(0, 2);
        Check.is("whole: it begins with nothing of before", x.line(0, 7), 0);
        x.type(0, 67, 1);
        Check.is("whole: its first byte", x.line(0, 7), 1);
        x.setEcho(0, 0);
        x.setEcho(0, 2);
        Check.is("whole again: nothing of before", x.line(0, 7), 0);
    }

    private static void marksAtTheirEdges() {
        int[][] rows = {{4, 0, 1}, {4, 0, 4}, {4, 3, 4}, {4, 1, 3}, {60, 0, 60}, {60, 59, 60}, {60, 0, 1}, {60, 20, 30}};
        for (int[] row : rows) {
            EchoLine x = one(row[0], row[1], row[2], "none");
            String marks = "marks " + row[1] + " " + row[2];
            Check.is("at first", x.property(8), 0);
            for (int round = 1; round <= 3; round++) {
                if (x.line(0, 5) < row[2] - 1) {
                    x.type(0, 1, row[2] - 1 - x.line(0, 5));
                }
                Check.is(marks + ": 1 below the high one", x.property(8), 0);
                Check.is(marks + ": stops so far", x.count(0, 8), round - 1);
                x.type(0, 1, 1);
                Check.is(marks + ": as long as the high one", x.property(8), 1);
                Check.is(marks + ": it is counted", x.count(0, 8), round);
                x.type(0, 1, 60);
                Check.is(marks + ": longer", x.property(8), 1);
                Check.is(marks + ": it is counted once", x.count(0, 8), round);
                if (x.line(0, 5) > row[1] + 1) {
                    x.tick(x.line(0, 5) - row[1] - 1);
                }
                Check.is(marks + ": 1 above the low one", x.property(8), 1);
                x.tick(1);
                Check.is(marks + ": as short as the low one", x.property(8), 0);
                Check.is(marks + ": the end is not counted", x.count(0, 8), round);
            }
        }
    }

    private static void manyBytesOverTheHighMark() {
        EchoLine x = one(60, 10, 20, "none");
        x.type(0, 1, 60);
        Check.is("over it at once", x.property(8), 1);
        Check.is("one stop", x.count(0, 8), 1);
        x.tick(60);
        Check.is("below the low one at once", x.property(8), 0);
        x.type(0, 1, 19);
        Check.is("1 below the high one", x.count(0, 8), 1);
        x.tick(8);
        x.type(0, 1, 8);
        Check.is("between the marks it does not begin", x.property(8), 0);
        x.type(0, 1, 1);
        Check.is("a second stop", x.count(0, 8), 2);
        x.breakLine(0, 1);
        Check.is("an empty IN ends it", x.property(8), 0);
        x.type(0, 1, 60);
        Check.is("what is dropped does not begin it", x.property(8), 0);
    }

    /** With 5 bytes in IN: the high mark or more, the low mark or less, and as before between them. */
    private static void setMarksAtTheNumberInIn() {
        int[][] rows = {{0, 4, 1, 1}, {0, 5, 1, 1}, {4, 5, 1, 1}, {4, 6, 0, 1}, {0, 6, 0, 1}, {4, 9, 0, 1}, {5, 6, 0, 0},
            {5, 9, 0, 0}, {6, 7, 0, 0}, {8, 9, 0, 0}, {0, 1, 1, 1}};
        for (int[] row : rows) {
            for (int before = 0; before <= 1; before++) {
                EchoLine x = before == 0 ? one(9, 0, 9, "none") : one(9, 0, 5, "none");
                x.type(0, 1, 5);
                Check.is("stopping before", x.property(8), before);
                Check.is("100 * the low mark + the high one", x.setMarks(0, row[0], row[1]), before == 0 ? 9 : 5);
                String marks = "marks " + row[0] + " " + row[1] + ", before " + before;
                Check.is(marks, x.property(8), row[2 + before]);
                Check.is(marks + ": stops", x.count(0, 8), before == 1 ? 1 : row[2]);
                Check.is(marks + ": low", x.line(0, 1), row[0]);
                Check.is(marks + ": high", x.line(0, 2), row[1]);
            }
        }
        EchoLine x = one(60, 59, 60, "none");
        Check.is("the greatest marks", x.setMarks(0, 0, 1), 5960);
        Check.is("the least marks", x.setMarks(0, 0, 60), 1);
        Check.is("an empty IN is as short as a low mark of 0", x.property(8), 0);
    }

    private static void untilStopAtTheHighMark() {
        for (int high : new int[] {1, 2, 59, 60}) {
            EchoLine x = one(60, 0, high, "none");
            for (int bytes = 0; bytes < high; bytes++) {
                Check.is("until " + high + " with " + bytes, x.untilStop(0), high - bytes);
                x.type(0, 1, 1);
            }
            Check.is("0 if it is stopping", x.untilStop(0), 0);
            x.tick(1);
            Check.is("until then " + high, x.untilStop(0), high == 1 ? 1 : 0);
            x.breakLine(0, 1);
            Check.is("0 if it is held", x.untilStop(0), 0);
            x.tick(1);
            Check.is("all of it again", x.untilStop(0), high);
        }
    }

    private static void roomAtTheCapacity() {
        for (int cap : CAPACITIES) {
            EchoLine x = one(cap, 0, 1, "each");
            for (int bytes = 0; bytes < cap; bytes++) {
                Check.is("room of " + cap + " with " + bytes, x.room(0), cap - bytes);
                x.type(0, 1, 1);
            }
            Check.is("no room", x.room(0), 0);
            x.breakLine(0, 2);
            Check.is("0 if it is held", x.room(0), 0);
            x.tick(1);
            Check.is("0 if it is held for 1 yet", x.room(0), 0);
            x.tick(1);
            Check.is("all of it", x.room(0), cap);
        }
    }

    private static void breakOfEmptyAndFullQueues() {
        EchoLine x = one(60, 0, 60, "each");
        Check.is("nothing is broken", x.breakLine(0, 1), 0);
        Check.is("it is a break", x.count(0, 9), 1);
        Check.is("broken", x.count(0, 3) + x.count(0, 7), 0);
        x.tick(1);
        x.type(0, 1, 60);
        Check.is("both are full", x.breakLine(0, 1), 120);
        Check.is("broken of IN", x.count(0, 3), 60);
        Check.is("broken of OUT", x.count(0, 7), 60);
        x.tick(1);
        x.reply(0, 1, 1);
        Check.is("OUT alone", x.breakLine(0, 1), 1);
        Check.is("broken of IN then", x.count(0, 3), 60);
        Check.is("broken of OUT then", x.count(0, 7), 61);
        x.tick(1);
        x.setEcho(0, 0);
        x.type(0, 1, 1);
        Check.is("IN alone", x.breakLine(0, 1), 1);
        Check.is("broken of IN at last", x.count(0, 3), 61);
        Check.is("broken of OUT at last", x.count(0, 7), 61);
        Check.is("breaks", x.count(0, 9), 4);
        Check.is("sent and delivered are not broken", x.count(0, 1) + x.count(0, 5), 0);
    }

    private static void breakEndsWithItsLastTick() {
        for (int ticks : new int[] {1, 2, 49, 50}) {
            EchoLine x = one(4, 0, 4, "none");
            x.breakLine(0, ticks);
            for (int left = ticks; left > 0; left--) {
                Check.is("held for", x.line(0, 8), left);
                Check.is("the set of those held", x.property(7), 1);
                x.tick(1);
            }
            Check.is("held no more", x.line(0, 8), 0);
            Check.is("no one is", x.property(7), 0);
            Check.is("typed then", x.type(0, 1, 1), 0);
            x.tick(1);
            Check.is("it does not go below 0", x.line(0, 8), 0);
            x.breakLine(0, ticks);
            x.tick(200);
            Check.is("nor in many ticks", x.line(0, 8), 0);
        }
    }

    private static void breakInPlaceOfWhatWasLeft() {
        EchoLine x = one(4, 0, 4, "none");
        int[] ticks = {50, 1, 50, 50, 2, 1};
        for (int i = 0; i < ticks.length; i++) {
            x.breakLine(0, ticks[i]);
            Check.is("held for " + i, x.line(0, 8), ticks[i]);
            Check.is("breaks " + i, x.count(0, 9), i + 1);
        }
    }

    private static void deliveredAtTheEnd() {
        EchoLine x = one(4, 0, 4, "none");
        Check.is("none was", x.delivered(0), EchoLine.NONE);
        x.tick(1);
        Check.is("none is with an empty OUT", x.delivered(0), EchoLine.NONE);
        Check.is("and none is counted", x.count(0, 5), 0);
        x.reply(0, 127, 1);
        x.reply(0, 1, 1);
        Check.is("not before a tick", x.delivered(0), EchoLine.NONE);
        x.tick(1);
        Check.is("the first", x.delivered(0), 127);
        x.tick(1);
        Check.is("the second", x.delivered(0), 1);
        x.tick(9);
        Check.is("the last one stays", x.delivered(0), 1);
        Check.is("2 are counted", x.count(0, 5), 2);
        x.breakLine(0, 1);
        Check.is("a break leaves it", x.delivered(0), 1);
        Check.load(x, "line a cap 4 marks 0 4 share 1;");
        Check.is("a load does not", x.delivered(0), EchoLine.NONE);
        x.reply(0, 5, 2);
        x.setPaused(0, true);
        x.tick(1);
        Check.is("a paused line gets none", x.delivered(0), EchoLine.NONE);
        x.setPaused(0, false);
        x.tick(1);
        Check.is("one that is paused no more does", x.delivered(0), 5);
        x.breakLine(0, 1);
        x.tick(1);
        Check.is("what was broken is not delivered", x.count(0, 5), 1);
    }

    private static void countsAtTheirFirstByte() {
        EchoLine x = Check.loaded("line a cap 4 marks 0 1 share 1 echo each;line b cap 4 marks 0 4 share 1;");
        for (int what = 0; what <= 11; what++) {
            Check.is("count " + what + " at first", x.count(0, what), 0);
            Check.is("sum " + what + " at first", x.sum(what), 0);
        }
        x.lend(1, 0, 1);
        x.pass();
        x.type(0, 1, 5);
        x.tick(1);
        x.reply(0, 2, 2);
        x.breakLine(0, 1);
        int[] due = {5, 1, 1, 3, 6, 1, 1, 4, 1, 1, 1, 1};
        for (int what = 0; what <= 11; what++) {
            Check.is("count " + what, x.count(0, what), due[what]);
            Check.is("sum " + what, x.sum(what), due[what]);
            Check.is("count " + what + " of the other line", x.count(1, what), 0);
        }
        Check.is("gap", x.gap(0), 0);
    }

    private static void setsOfAllAndOfNone() {
        StringBuilder text = new StringBuilder();
        for (char name = 'a'; name <= 'f'; name++) {
            text.append("line ").append(name).append(" cap 4 marks 0 1 share 1;");
        }
        EchoLine x = Check.loaded(text.toString());
        for (int line = 0; line < 6; line++) {
            x.breakLine(line, 1);
            Check.is("held", x.property(7), (2 << line) - 1);
        }
        x.tick(1);
        Check.is("none is held", x.property(7), 0);
        for (int line = 5; line >= 0; line--) {
            x.type(line, 1, 1);
            Check.is("stopping", x.property(8), 63 - ((1 << line) - 1));
            x.setPaused(line, true);
            Check.is("paused", x.property(9), 63 - ((1 << line) - 1));
            x.lend(line, (line + 1) % 6, 1);
            Check.is("lending", x.property(10), 63 - ((1 << line) - 1));
        }
        for (int line = 0; line < 6; line++) {
            x.recall(line);
            Check.is("lending then", x.property(10), 63 - ((2 << line) - 1));
            x.setPaused(line, false);
            Check.is("paused then", x.property(9), 63 - ((2 << line) - 1));
        }
        x.tick(6);
        Check.is("none is stopping", x.property(8), 0);
    }

    private static void fullestAndItsTies() {
        EchoLine x = Check.loaded("line a cap 4 marks 0 1 share 1;line b cap 4 marks 0 1 share 1;line c cap 4 marks 0 1 share 1;");
        Check.is("all are empty: the lowest", x.fullest(), 0);
        x.reply(2, 1, 1);
        Check.is("OUT counts", x.fullest(), 2);
        x.type(1, 1, 1);
        Check.is("1 and 2 are equal", x.fullest(), 1);
        x.type(2, 1, 1);
        Check.is("IN and OUT together", x.fullest(), 2);
        x.type(0, 1, 2);
        Check.is("0 and 2 are equal", x.fullest(), 0);
        x.reply(1, 1, 2);
        Check.is("1 has more", x.fullest(), 1);
        Check.is("one line alone", new EchoLine().fullest(), 0);
    }

    private static String lines(int many) {
        StringBuilder text = new StringBuilder();
        for (int i = 0; i < many; i++) {
            text.append("line ").append((char) ('a' + i)).append(" cap 9 marks 0 9 share 1;");
        }
        return text.toString();
    }

    /** Each line takes part once in a tick, the first one and the last one too. */
    private static void sixLinesInATick() {
        for (int many = 1; many <= 6; many++) {
            EchoLine x = Check.loaded(lines(many));
            for (int line = 0; line < many; line++) {
                x.breakLine(line, 50 - line);
            }
            x.tick(1);
            for (int line = 0; line < many; line++) {
                Check.is("held for 1 tick less", x.line(line, 8), 49 - line);
            }
            x.tick(49);
            for (int line = 0; line < many; line++) {
                x.reply(line, 1 + line, 3 + line);
            }
            x.tick(1);
            for (int line = 0; line < many; line++) {
                Check.is("one byte is delivered", x.count(line, 5), 1);
                Check.is("the others wait", x.line(line, 6), 2 + line);
                Check.is("its byte", x.delivered(line), 1 + line);
            }
        }
    }

    private static void sumsOf1To6Lines() {
        for (int many = 1; many <= 6; many++) {
            EchoLine x = Check.loaded(lines(many));
            for (int line = 0; line < many; line++) {
                x.type(line, 1, 10 + line);
                x.reply(line, 1, 10 + line);
            }
            Check.is("fullest, as all are full", x.fullest(), 0);
            x.tick(many);
            for (int line = 0; line < many; line++) {
                x.breakLine(line, 1);
            }
            int extra = many * (many - 1) / 2;
            // The lines send in the ticks 1 to many; each gets a byte in each of them.
            int delivered = many * many;
            int[] due = {10 * many + extra, many, many + extra, 8 * many, 10 * many + extra, delivered, many + extra,
                9 * many - delivered, many, many, 0, many * (many + 1) / 2};
            for (int what = 0; what <= 11; what++) {
                Check.is("sum " + what + " of " + many, x.sum(what), due[what]);
            }
            x.tick(1);
            x.reply(many - 1, 1, 1);
            Check.is("fullest of " + many, x.fullest(), many - 1);
            Check.is("busiest, as all sent 1", x.busiest(), 0);
        }
    }

    /** Lines of a text that was undone or replaced are not there, also for questions that were asked while they were. */
    private static void linesThatAreNoMoreDoNotCount() {
        for (int way = 0; way < 3; way++) {
            EchoLine x = new EchoLine();
            x.keep(0);
            Check.load(x, lines(6));
            for (int line = 0; line < 6; line++) {
                x.setPaused(line, line % 2 == 0);
            }
            Check.load(x, lines(6));
            x.type(5, 1, 9);
            x.reply(5, 1, 9);
            x.reply(1, 1, 2);
            Check.is("its queues are empty in 9 ticks", x.quietIn(), 9);
            Check.is("it sends", x.nextSender(), 5);
            x.lend(5, 1, 9);
            Check.is("a line that is empty sends for it", x.nextSender(), EchoLine.NONE);
            Check.is("in no time", x.sentIn(5, 0), 0);
            if (way == 0) {
                x.restore(0);
            } else {
                Check.load(x, way == 1 ? "line z cap 4 marks 0 1 share 1;" : lines(5));
            }
            Check.is("quiet", x.quietIn(), 0);
            Check.is("fullest", x.fullest(), 0);
            Check.is("next sender", x.nextSender(), EchoLine.NONE);
            Check.is("typed", x.sum(0), 0);
            Check.is("lend", x.property(10), 0);
            Check.is("stopping", x.property(8), 0);
            Check.is("paused", x.property(9), 0);
            Check.is("best borrower", x.bestBorrower(0), way == 2 ? 1 : EchoLine.NONE);
            Check.raisesIndex("line 5", () -> x.line(5, 0));
            x.undo();
            Check.is("there again", x.fullest(), 5);
        }
    }

    /** Numbers as great as 512 calls can make them. */
    private static void manyTypings() {
        EchoLine x = one(4, 0, 4, "none");
        for (int i = 0; i < 250; i++) {
            x.type(0, 1, 60);
            x.reply(0, 1, 60);
        }
        Check.is("typed", x.count(0, 0), 15000);
        Check.is("dropped", x.count(0, 2), 14996);
        Check.is("offered", x.count(0, 4), 15000);
        Check.is("dropped at OUT", x.count(0, 6), 14996);
        Check.is("gap", x.gap(0), 0);
    }
}
