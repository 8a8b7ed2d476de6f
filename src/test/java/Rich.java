import java.lang.reflect.InvocationTargetException;
import java.lang.reflect.Method;

/** An object in which every part differs from a new one's, and all that can be told of it behind a call. */
final class Rich {
    static final String TEXT = "line ab cap 6 marks 1 4 share 2 echo whole;line c cap 4 marks 0 2 share 1 echo each;"
        + "line d cap 9 marks 3 5 share 1;lend c to ab for 3;type ab 1 2 13 4;type c 3;type d 5;";

    /** The parts of an object that a call may leave as they were. */
    static final int STATE = 0;
    static final int ERROR = 1;
    static final int OUTPUT = 2;
    static final int PAST = 3;
    static final int SLOTS = 4;
    static final int INPUT = 5;

    private Rich() {
    }

    static EchoLine made() {
        EchoLine x = new EchoLine();
        Check.load(x, TEXT);
        x.tick(2);
        x.setPaused(1, true);
        x.keep(0);
        x.type(0, 9, 1);
        x.breakLine(2, 7);
        x.writeQueues();
        Check.load(x, "line ab cap 3");
        Check.give(x, "ab");
        return x;
    }

    interface Asked {
        void of(EchoLine x);
    }

    /** All that can be told of a rich object behind a call. */
    static String everything(Asked call) {
        return String.join("\n", parts(call));
    }

    /** Each part by itself, in the order of the numbers above; asked of several objects, so that none gets more than 512 calls. */
    static String[] parts(Asked call) {
        EchoLine x = behind(call);
        String error = x.errorCode() + " at " + x.errorPosition();
        return new String[] {Check.picture(x), error, outputOf(x), pastOf(behind(call)), slotsOf(behind(call)), inputOf(behind(call))};
    }

    private static EchoLine behind(Asked call) {
        EchoLine x = made();
        call.of(x);
        return x;
    }

    private static String outputOf(EchoLine x) {
        StringBuilder text = new StringBuilder();
        for (int i = 0; i < 100 && thrownBy(x, "outputByte", i) == null; i++) {
            text.append((char) x.outputByte(i));
        }
        return text.toString();
    }

    private static String pastOf(EchoLine x) {
        StringBuilder text = new StringBuilder();
        for (int i = 0; i < 8 && thrownBy(x, "undo") == null; i++) {
            text.append(x.undoCount()).append(' ').append(small(x)).append('\n');
        }
        return text.toString();
    }

    private static String slotsOf(EchoLine x) {
        StringBuilder text = new StringBuilder();
        for (int slot = 1; slot >= 0; slot--) {
            text.append(thrownBy(x, "restore", slot) == null ? small(x) : "nothing").append('\n');
        }
        return text.toString();
    }

    /** The buffer holds two bytes that are the name of the line 0, as it was made. */
    private static String inputOf(EchoLine x) {
        return thrownBy(x, "truncate", 3) + " " + x.find();
    }

    private static String small(EchoLine x) {
        StringBuilder text = new StringBuilder();
        for (int what = 0; what <= 10; what++) {
            text.append(x.property(what)).append(' ');
        }
        for (int line = 0; line < x.property(0); line++) {
            text.append(x.line(line, 3)).append(x.line(line, 5)).append(x.line(line, 6)).append(x.line(line, 8));
            text.append(x.count(line, 0)).append('/').append(x.count(line, 4)).append(' ');
        }
        return text.toString();
    }

    private static Method named(String name) {
        for (Method m : EchoLine.class.getDeclaredMethods()) {
            if (m.getName().equals(name) && java.lang.reflect.Modifier.isPublic(m.getModifiers())) {
                return m;
            }
        }
        throw new IllegalStateException(name);
    }

    /** The class of the exception that a call throws, null if it throws none. */
    static Class<?> thrownBy(EchoLine x, String name, Object... values) {
        try {
            named(name).invoke(x, values);
            return null;
        } catch (InvocationTargetException e) {
            return e.getCause().getClass();
        } catch (IllegalAccessException e) {
            throw new IllegalStateException(e);
        }
    }
}
