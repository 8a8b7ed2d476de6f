import java.util.ArrayList;
import java.util.List;

/**
 * Every argument of every method: the last value in range is taken and the first one out of range refused, on both sides,
 * with the exception that is due, that named first if several apply, and a refused call changes nothing at all.
 */
public final class RefusedTest {
    private static final Class<?> INDEX = IndexOutOfBoundsException.class;
    private static final Class<?> ARGUMENT = IllegalArgumentException.class;
    private static final Class<?> STATE = IllegalStateException.class;
    private static final Class<?> ELEMENT = java.util.NoSuchElementException.class;

    /** One argument: its values in range, one that suits the others, and what another one causes. */
    private static final class Argument {
        final int low;
        final int high;
        final int usual;
        final Class<?> due;

        Argument(int low, int high, int usual, Class<?> due) {
            this.low = low;
            this.high = high;
            this.usual = usual;
            this.due = due;
        }

        List<Integer> outside() {
            List<Integer> values = new ArrayList<>(List.of(low - 1, high + 1, Integer.MIN_VALUE, Integer.MAX_VALUE));
            values.addAll(List.of(low - 256, high + 256, high + 65536));
            return values;
        }
    }

    private final String method;
    private final List<Argument> arguments = new ArrayList<>();
    private final int undone;

    private RefusedTest(String method, int undone) {
        this.method = method;
        this.undone = undone;
    }

    private static RefusedTest question(String method) {
        return new RefusedTest(method, 0);
    }

    private static RefusedTest change(String method) {
        return new RefusedTest(method, 1);
    }

    private RefusedTest line() {
        arguments.add(new Argument(0, 2, 0, INDEX));
        return this;
    }

    private RefusedTest index(int low, int high, int usual) {
        arguments.add(new Argument(low, high, usual, INDEX));
        return this;
    }

    private RefusedTest value(int low, int high, int usual) {
        arguments.add(new Argument(low, high, usual, ARGUMENT));
        return this;
    }

    private RefusedTest element(int low, int high) {
        arguments.add(new Argument(low, high, low, ELEMENT));
        return this;
    }

    private static final RefusedTest[] ALL = {
        question("truncate").value(0, 2, 1), question("property").value(0, 10, 5), question("line").line().value(0, 10, 3),
        question("count").line().value(0, 11, 3), question("delivered").line(), question("logged").index(0, 1, 0).value(0, 4, 2),
        question("sendsIn").line(), question("emptyIn").line(), question("sentIn").line().value(0, 500, 9),
        question("deliveredIn").line().value(0, 500, 9), question("room").line(), question("untilStop").line(),
        question("droppedBy").line().value(1, 500, 9), question("sentIfLent").line().index(0, 2, 1),
        question("bestBorrower").line(), question("share").line(), question("meanWait").line(), question("gap").line(),
        question("sum").value(0, 11, 4), question("keep").index(0, 1, 0), question("writeCounts").line(),
        question("outputByte").element(0, 20),
        change("type").line().value(1, 127, 13).value(1, 60, 2), change("reply").line().value(1, 127, 13).value(1, 60, 2),
        change("tick").value(1, 200, 3), change("lend").line().index(0, 2, 1).value(1, 99, 4), change("recall").line(),
        change("breakLine").line().value(1, 50, 4), change("setEcho").line().value(0, 2, 1),
        change("setMarks").line().value(0, 5, 5).value(6, 6, 6), change("setShare").line().value(1, 9, 4)};

    private static String untouched;

    public static void main(String[] args) {
        untouched = Rich.everything(x -> { });
        Check.is("what is looked at is told in full", untouched.length() > 500, true);
        for (RefusedTest row : ALL) {
            row.takesWhatIsInRange();
            row.refusesWhatIsNot();
            row.theFirstNamedOfSeveral();
        }
        queuedAndPaused();
        marks();
        sameLineTwice();
        stateExceptions();
        loadWithAnError();
        linesOfEachNumberOfLines();
        linesThatAreNoMore();
        questionsCannotBeUndone();
        Check.finish();
    }

    private static void refused(Class<?> due, String name, Object... values) {
        String call = name + java.util.Arrays.toString(values);
        Check.is(call + " throws", String.valueOf(Rich.thrownBy(Rich.made(), name, values)), String.valueOf(due));
        Check.is("behind " + call, Rich.everything(x -> Rich.thrownBy(x, name, values)), untouched);
    }

    private static void taken(int undone, String name, Object... values) {
        EchoLine x = Rich.made();
        int before = x.undoCount();
        Check.is(name + java.util.Arrays.toString(values) + " throws", String.valueOf(Rich.thrownBy(x, name, values)), "null");
        Check.is(name + java.util.Arrays.toString(values) + " can be undone", x.undoCount(), before + undone);
    }

    private Object[] usual() {
        Object[] values = new Object[arguments.size()];
        for (int i = 0; i < values.length; i++) {
            values[i] = arguments.get(i).usual;
        }
        return values;
    }

    private void takesWhatIsInRange() {
        for (int i = 0; i < arguments.size(); i++) {
            for (int value : new int[] {arguments.get(i).low, arguments.get(i).high}) {
                Object[] values = usual();
                values[i] = value;
                if (method.equals("sentIfLent") || method.equals("lend")) {
                    // The two lines must be others.
                    values[1 - i % 2] = i < 2 ? (value + 1) % 3 : values[1 - i % 2];
                }
                taken(undone, method, values);
            }
        }
    }

    private void refusesWhatIsNot() {
        for (int i = 0; i < arguments.size(); i++) {
            for (int value : arguments.get(i).outside()) {
                Object[] values = usual();
                values[i] = value;
                refused(arguments.get(i).due, method, values);
            }
        }
    }

    private void theFirstNamedOfSeveral() {
        for (int i = 0; i < arguments.size(); i++) {
            for (int j = i + 1; j < arguments.size(); j++) {
                Class<?> due = arguments.get(i).due == INDEX || arguments.get(j).due == INDEX ? INDEX : ARGUMENT;
                for (int low = 0; low < 4; low++) {
                    Object[] values = usual();
                    values[i] = low % 2 == 0 ? arguments.get(i).low - 1 : arguments.get(i).high + 1;
                    values[j] = low / 2 == 0 ? arguments.get(j).low - 1 : arguments.get(j).high + 1;
                    refused(due, method, values);
                }
            }
        }
        if (arguments.size() == 3) {
            Object[] values = usual();
            for (int i = 0; i < 3; i++) {
                values[i] = arguments.get(i).high + 1;
            }
            refused(INDEX, method, values);
        }
    }

    private static void queuedAndPaused() {
        // ab has 13 4 of the text, and 9; OUT has the last of 1 2 13, of which 2 were delivered; c has 3 yet, its echo is gone.
        EchoLine x = Rich.made();
        for (int line = 0; line < 3; line++) {
            for (boolean out : new boolean[] {false, true}) {
                int size = x.line(line, out ? 6 : 5);
                Check.is("size of a queue of line " + line, size, new int[][] {{3, 1}, {1, 0}, {0, 0}}[line][out ? 1 : 0]);
                for (int index = 0; index < size; index++) {
                    taken(0, "queued", line, out, index);
                }
                for (int index : new int[] {-1, size, size + 1, 60, Integer.MIN_VALUE, Integer.MAX_VALUE}) {
                    refused(INDEX, "queued", line, out, index);
                }
            }
        }
        for (int line : new int[] {-1, 3, 6, Integer.MIN_VALUE, Integer.MAX_VALUE}) {
            for (boolean flag : new boolean[] {false, true}) {
                refused(INDEX, "queued", line, flag, 0);
                refused(INDEX, "queued", line, flag, -1);
                refused(INDEX, "setPaused", line, flag);
            }
        }
        for (int line = 0; line < 3; line++) {
            taken(1, "setPaused", line, true);
            taken(1, "setPaused", line, false);
        }
    }

    private static void marks() {
        int[] capacities = {6, 4, 9};
        for (int line = 0; line < 3; line++) {
            int cap = capacities[line];
            for (int low = 0; low < cap; low++) {
                taken(1, "setMarks", line, low, low + 1);
                taken(1, "setMarks", line, low, cap);
                refused(ARGUMENT, "setMarks", line, low, low);
                refused(ARGUMENT, "setMarks", line, low, cap + 1);
            }
            refused(ARGUMENT, "setMarks", line, -1, 0);
            refused(ARGUMENT, "setMarks", line, -1, 1);
            refused(ARGUMENT, "setMarks", line, cap, cap);
            refused(ARGUMENT, "setMarks", line, cap, cap + 1);
            refused(ARGUMENT, "setMarks", line, 1, 0);
            refused(ARGUMENT, "setMarks", line, Integer.MAX_VALUE, Integer.MIN_VALUE);
            refused(ARGUMENT, "setMarks", line, Integer.MAX_VALUE, 3);
            refused(ARGUMENT, "setMarks", line, 0, Integer.MIN_VALUE);
        }
        refused(INDEX, "setMarks", 3, Integer.MAX_VALUE, Integer.MIN_VALUE);
    }

    private static void sameLineTwice() {
        for (int line = 0; line < 3; line++) {
            refused(ARGUMENT, "sentIfLent", line, line);
            refused(ARGUMENT, "lend", line, line, 1);
            refused(ARGUMENT, "lend", line, line, 0);
            refused(ARGUMENT, "lend", line, line, 100);
        }
        for (int line : new int[] {-1, 3, Integer.MIN_VALUE, Integer.MAX_VALUE}) {
            refused(INDEX, "sentIfLent", line, line);
            refused(INDEX, "lend", line, line, 1);
            refused(INDEX, "lend", line, line, 0);
            refused(INDEX, "lend", 0, line, 100);
            refused(INDEX, "lend", line, 0, 100);
        }
    }

    private static void stateExceptions() {
        refused(STATE, "restore", 1);
        for (int slot : new int[] {-1, 2, 3, Integer.MIN_VALUE, Integer.MAX_VALUE}) {
            refused(INDEX, "restore", slot);
        }
        taken(1, "restore", 0);
        EchoLine x = new EchoLine();
        for (int slot : new int[] {-1, 2}) {
            Check.raisesIndex("restore(" + slot + ") where nothing is kept", () -> x.restore(slot));
        }
        Check.raisesState("undo of a new object", x::undo);
        Check.is("nothing can be undone then", x.undoCount(), 0);
        EchoLine done = Rich.made();
        while (done.undoCount() > 0) {
            done.undo();
        }
        String before = Check.picture(done);
        Check.raisesState("undo of nothing", done::undo);
        Check.is("behind undo of nothing", Check.picture(done), before);
        Check.raisesArgument("the input buffer has 2 bytes", () -> done.truncate(3));
        done.truncate(2);
        Check.is("behind an append to 381 bytes", Rich.everything(y -> {
            y.truncate(0);
            Check.give(y, " ".repeat(381));
            Check.raisesState("append to 381 bytes", () -> y.append(0x61626364, 0, 0, 0, 0));
            Check.raisesArgument("truncate(382)", () -> y.truncate(382));
            y.truncate(381);
            y.truncate(0);
            Check.give(y, "ab");
        }), untouched);
    }

    /** Then only the buffer and the parse error change. */
    private static void loadWithAnError() {
        String[] texts = {"", "x", "line z cap 61", Rich.TEXT.substring(0, Rich.TEXT.length() - 1), Rich.TEXT + "line ab", Rich.TEXT + "lend d to x"};
        int[] codes = {1, 1, 2, 1, 3, 4};
        for (int i = 0; i < texts.length; i++) {
            String text = texts[i];
            String behind = Rich.everything(x -> {
                x.truncate(0);
                Check.give(x, text);
                Check.is("load of " + text, x.load(), EchoLine.PARSE_ERROR);
                Check.is("its code", x.errorCode(), codes[text.isEmpty() ? 0 : indexOf(texts, text)]);
                Check.raisesArgument("the buffer is empty", () -> x.truncate(1));
                Check.load(x, "line ab cap 3");
                Check.give(x, "ab");
            });
            Check.is("behind a load of " + text, behind, untouched);
        }
    }

    private static int indexOf(String[] texts, String text) {
        return List.of(texts).indexOf(text);
    }

    /** Which line is there and which is not is told by the text, from 1 line to 6. */
    private static void linesOfEachNumberOfLines() {
        for (int many = 1; many <= 6; many++) {
            StringBuilder text = new StringBuilder();
            for (int i = 0; i < many; i++) {
                text.append("line ").append((char) ('a' + i)).append(" cap 6 marks 0 4 share 1;");
            }
            for (RefusedTest row : ALL) {
                for (int i = 0; i < row.arguments.size() && row.arguments.get(0).due == INDEX; i++) {
                    if (row.arguments.get(i).due == INDEX && row.arguments.get(i).high == 2) {
                        row.lastAndFirstBehind(text.toString(), many, i);
                    }
                }
            }
            EchoLine x = Check.loaded(text.toString());
            int behind = many;
            x.type(many - 1, 1, 1);
            x.queued(behind - 1, false, 0);
            x.setPaused(behind - 1, true);
            Check.raisesIndex("queued behind " + many, () -> x.queued(behind, false, 0));
            Check.raisesIndex("setPaused behind " + many, () -> x.setPaused(behind, true));
        }
    }

    private void lastAndFirstBehind(String text, int many, int i) {
        Object[] values = usual();
        boolean two = method.equals("lend") || method.equals("sentIfLent");
        if (two) {
            values[1 - i] = 0;
        }
        values[i] = many;
        Check.is(method + " of line " + many + " of " + many, String.valueOf(Rich.thrownBy(Check.loaded(text), method, values)),
            String.valueOf(INDEX));
        values[i] = many - 1;
        Check.is(method + " of the last of " + many, String.valueOf(Rich.thrownBy(Check.loaded(text), method, values)),
            String.valueOf(two && many == 1 ? ARGUMENT : null));
    }

    private static void linesThatAreNoMore() {
        EchoLine x = Check.loaded(Rich.TEXT);
        x.keep(1);
        x.line(2, 0);
        x.undo();
        Check.raisesIndex("a line that was undone", () -> x.line(1, 0));
        Check.raisesIndex("lend to a line that was undone", () -> x.lend(0, 1, 1));
        x.restore(1);
        Check.is("lines are there again", x.line(2, 0), 9);
        Check.load(x, "line z cap 5 marks 0 1 share 1;");
        Check.raisesIndex("a line of the text before", () -> x.type(1, 1, 1));
        x.undo();
        Check.is("type on a line that is there again", x.type(2, 1, 1), 0);
        Check.raisesIndex("one line behind", () -> x.type(3, 1, 1));
    }

    private static void questionsCannotBeUndone() {
        for (String name : new String[] {"errorCode", "errorPosition", "find", "nextSender", "quietIn", "fullest", "busiest",
            "longestRun", "undoCount", "writeQueues", "writeLog"}) {
            taken(0, name);
        }
        EchoLine x = Rich.made();
        int before = x.undoCount();
        x.append(1, 2, 3, 4, 5);
        Check.is("append cannot be undone", x.undoCount(), before);
        x.truncate(0);
        Check.is("truncate cannot be undone", x.undoCount(), before);
        x.load();
        Check.is("a load with an error cannot be undone", x.undoCount(), before);
    }
}
