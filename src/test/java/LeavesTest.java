import java.util.List;

/** What each call leaves as it was: of the state, the parse error, the two buffers, what can be undone and the two slots. */
public final class LeavesTest {
    private static final String TEXT = "line z cap 5 marks 1 2 share 3;type z 8;";
    private static final String[] NAMES = {"the state", "the parse error", "the output buffer", "what can be undone", "the slots",
        "the input buffer"};
    private static final String[] UNTOUCHED = Rich.parts(x -> { });

    public static void main(String[] args) {
        partsAreTold();
        questions();
        calls();
        eachChangeAndItsUndo();
        Check.finish();
    }

    /** Otherwise two empty parts would always be equal. */
    private static void partsAreTold() {
        Check.is(NAMES[Rich.ERROR], UNTOUCHED[Rich.ERROR], "2 at 12");
        Check.is(NAMES[Rich.OUTPUT], UNTOUCHED[Rich.OUTPUT], "ab:3/1s c:1/0p d:0/0h");
        Check.is(NAMES[Rich.PAST], UNTOUCHED[Rich.PAST].split("\n").length, 5);
        Check.is(NAMES[Rich.SLOTS], UNTOUCHED[Rich.SLOTS].startsWith("nothing\n3 2 "), true);
        Check.is(NAMES[Rich.INPUT], UNTOUCHED[Rich.INPUT], IllegalArgumentException.class + " 0");
    }

    /** All parts but those named are as they were, and of those named at least one is not. */
    private static void leaves(String call, Rich.Asked asked, Integer... changed) {
        String[] parts = Rich.parts(asked);
        boolean anyChanged = false;
        for (int i = 0; i < NAMES.length; i++) {
            if (List.of(changed).contains(i)) {
                anyChanged |= !parts[i].equals(UNTOUCHED[i]);
            } else {
                Check.is(NAMES[i] + " behind " + call, parts[i], UNTOUCHED[i]);
            }
        }
        Check.is(call + " changes something", anyChanged, changed.length > 0);
    }

    private static void questions() {
        leaves("errorCode", x -> x.errorCode());
        leaves("errorPosition", x -> x.errorPosition());
        leaves("nextSender", x -> x.nextSender());
        leaves("quietIn", x -> x.quietIn());
        leaves("fullest", x -> x.fullest());
        leaves("busiest", x -> x.busiest());
        leaves("longestRun", x -> x.longestRun());
        leaves("undoCount", x -> x.undoCount());
        leaves("outputByte", x -> x.outputByte(0));
        leaves("logged", x -> x.logged(1, 3));
        leaves("queued", x -> x.queued(0, false, 1));
        for (int what = 0; what <= 11; what++) {
            int asked = what;
            leaves("sum", x -> x.sum(asked));
            leaves("count", x -> x.count(2, asked));
        }
        for (int what = 0; what <= 10; what++) {
            int asked = what;
            leaves("property", x -> x.property(asked));
            leaves("line", x -> x.line(0, asked));
        }
        for (int line = 0; line < 3; line++) {
            questionsOf(line);
        }
    }

    private static void questionsOf(int line) {
        leaves("delivered", x -> x.delivered(line));
        leaves("sendsIn", x -> x.sendsIn(line));
        leaves("emptyIn", x -> x.emptyIn(line));
        leaves("sentIn", x -> x.sentIn(line, 500));
        leaves("deliveredIn", x -> x.deliveredIn(line, 500));
        leaves("room", x -> x.room(line));
        leaves("untilStop", x -> x.untilStop(line));
        leaves("droppedBy", x -> x.droppedBy(line, 500));
        leaves("sentIfLent", x -> x.sentIfLent(line, (line + 1) % 3));
        leaves("bestBorrower", x -> x.bestBorrower(line));
        leaves("share", x -> x.share(line));
        leaves("meanWait", x -> x.meanWait(line));
        leaves("gap", x -> x.gap(line));
    }

    private static void calls() {
        leaves("append", x -> x.append(1, 2, 3, 4, 5), Rich.INPUT);
        leaves("truncate", x -> x.truncate(1), Rich.INPUT);
        leaves("find", x -> x.find(), Rich.INPUT);
        leaves("load with an error", x -> x.load(), Rich.INPUT, Rich.ERROR);
        leaves("load", x -> loadText(x), Rich.INPUT, Rich.ERROR, Rich.STATE, Rich.PAST);
        leaves("keep(0)", x -> x.keep(0), Rich.SLOTS);
        leaves("keep(1)", x -> x.keep(1), Rich.SLOTS);
        leaves("undo", x -> x.undo(), Rich.STATE, Rich.PAST);
        leaves("writeQueues of the same queues", x -> x.writeQueues());
        leaves("writeLog", x -> x.writeLog(), Rich.OUTPUT);
        leaves("writeCounts", x -> x.writeCounts(0), Rich.OUTPUT);
        for (int i = 0; i < CHANGES.length; i++) {
            leaves("change " + i, CHANGES[i], Rich.STATE, Rich.PAST);
        }
    }

    private static void loadText(EchoLine x) {
        x.truncate(0);
        Check.is("load", Check.load(x, TEXT), 1);
    }

    private static final Rich.Asked[] CHANGES = {x -> x.type(0, 13, 3), x -> x.type(2, 1, 1), x -> x.reply(0, 7, 60),
        x -> x.tick(1), x -> x.tick(200), x -> x.lend(0, 2, 9), x -> x.recall(1), x -> x.recall(0), x -> x.breakLine(0, 50),
        x -> x.setPaused(1, false), x -> x.setPaused(1, true), x -> x.setEcho(0, 0), x -> x.setMarks(0, 0, 1),
        x -> x.setMarks(0, 5, 6), x -> x.setShare(0, 9), x -> x.pass(), x -> x.restore(0)};

    /** With its undo a change leaves all parts: what could be undone ahead of it, too. */
    private static void eachChangeAndItsUndo() {
        for (int i = 0; i < CHANGES.length; i++) {
            Rich.Asked change = CHANGES[i];
            leaves("change " + i + " and its undo", x -> {
                change.of(x);
                x.undo();
            });
        }
        leaves("load and its undo", x -> {
            loadText(x);
            x.undo();
        }, Rich.INPUT, Rich.ERROR);
        leaves("restore, keep in its place, and undo", x -> {
            x.restore(0);
            x.keep(0);
            x.undo();
        });
    }
}
