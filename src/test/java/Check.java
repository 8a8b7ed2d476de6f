/** What every test uses: comparing answers, expecting exceptions, giving texts to an EchoLine. */
final class Check {
    interface Call {
        void run();
    }

    private static int checked = 0;
    private static int wrong = 0;

    private Check() {
    }

    static void is(String what, double got, double due) {
        checked++;
        if (got != due) {
            wrong++;
            System.out.println(what + " answered " + got + ", due is " + due);
        }
    }

    static void is(String what, boolean got, boolean due) {
        is(what, got ? 1 : 0, due ? 1 : 0);
    }

    static void is(String what, String got, String due) {
        checked++;
        if (!got.equals(due)) {
            wrong++;
            System.out.println(what + " answered \"" + got + "\", due is \"" + due + "\"");
        }
    }

    static void raises(String what, Class<?> due, Call call) {
        checked++;
        Class<?> got = null;
        try {
            call.run();
        } catch (RuntimeException e) {
            got = e.getClass();
        }
        if (got != due) {
            wrong++;
            System.out.println(what + " threw " + got + ", due is " + due);
        }
    }

    static void raisesIndex(String what, Call call) {
        raises(what, IndexOutOfBoundsException.class, call);
    }

    static void raisesArgument(String what, Call call) {
        raises(what, IllegalArgumentException.class, call);
    }

    static void raisesState(String what, Call call) {
        raises(what, IllegalStateException.class, call);
    }

    /** Four bytes of a text from an index on as an int; spaces stand behind its end. */
    static int four(String text, int from) {
        int bytes = 0;
        for (int i = from; i < from + 4; i++) {
            bytes = bytes << 8 | (i < text.length() ? text.charAt(i) & 255 : ' ');
        }
        return bytes;
    }

    /** Appends a text to an empty input buffer. */
    static void give(EchoLine x, String text) {
        for (int i = 0; i < text.length(); i += 20) {
            x.append(four(text, i), four(text, i + 4), four(text, i + 8), four(text, i + 12), four(text, i + 16));
        }
        x.truncate(text.length());
    }

    static int load(EchoLine x, String text) {
        give(x, text);
        return x.load();
    }

    /** A new object with a text that must be without an error. */
    static EchoLine loaded(String text) {
        EchoLine x = new EchoLine();
        is("load of " + text, load(x, text) > 0, true);
        return x;
    }

    /** A text that must have an error with this code at this position. */
    static void fails(String text, int code, int position) {
        EchoLine x = new EchoLine();
        is("load of " + text, load(x, text), EchoLine.PARSE_ERROR);
        is("errorCode of " + text, x.errorCode(), code);
        is("errorPosition of " + text, x.errorPosition(), position);
    }

    static String output(EchoLine x, int length) {
        StringBuilder text = new StringBuilder();
        for (int i = 0; i < length; i++) {
            text.append((char) x.outputByte(i));
        }
        raises("outputByte behind the end", java.util.NoSuchElementException.class, () -> x.outputByte(length));
        return text.toString();
    }

    /** Every number that can be asked for without a change, in one text: two equal states have equal ones. */
    static String picture(EchoLine x) {
        StringBuilder text = new StringBuilder();
        for (int what = 0; what <= 10; what++) {
            text.append(x.property(what)).append(' ');
        }
        for (int line = 0; line < x.property(0); line++) {
            pictureOfLine(x, line, text);
        }
        for (int i = 0; i < Math.min(40, x.property(5)); i++) {
            for (int what = 0; what <= 4; what++) {
                text.append(x.logged(i, what)).append('.');
            }
        }
        return text.append(' ').append(x.undoCount()).append(x.longestRun()).toString();
    }

    private static void pictureOfLine(EchoLine x, int line, StringBuilder text) {
        text.append('|');
        for (int what = 0; what <= 10; what++) {
            text.append(x.line(line, what)).append(' ');
        }
        for (int what = 0; what <= 11; what++) {
            text.append(x.count(line, what)).append(' ');
        }
        for (int i = 0; i < x.line(line, 5); i++) {
            text.append(x.queued(line, false, i)).append(',');
        }
        for (int i = 0; i < x.line(line, 6); i++) {
            text.append(x.queued(line, true, i)).append(';');
        }
        text.append(x.delivered(line)).append(' ').append(x.meanWait(line)).append(' ').append(x.sendsIn(line));
    }

    static void finish() {
        System.out.println(checked + " answers looked at, " + wrong + " not as due");
        if (wrong > 0 || checked == 0) {
            System.exit(1);
        }
    }
}
