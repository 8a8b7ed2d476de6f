import java.lang.reflect.InvocationTargetException;
import java.lang.reflect.Method;
import java.util.ArrayList;
import java.util.Arrays;
import java.util.List;
import java.util.Random;

/** Long runs of calls, by fixed seeds, on an EchoLine and on the Model: every answer and every exception must agree. */
public final class ModelTest {
    private static final int RUNS = 1500;
    /** What one step more may need, an output or a text, stays within the 512 calls for which an object is promised to answer. */
    private static final int CALLS = 415;
    private static final int[] ODD = {-1, 0, 1, 2, 3, 6, 7, 10, 11, 12, 13, 40, 60, 61, 99, 100, 101, 127, 128, 200, 201, 500,
        501, 1000, Integer.MAX_VALUE, Integer.MIN_VALUE, Integer.MIN_VALUE + 1, 256, 65536, -128};

    private final Random random;
    private final EchoLine subject = new EchoLine();
    private final Model model = new Model();
    private final List<String> told = new ArrayList<>();
    private final List<Method> methods;
    private int calls = 0;

    private ModelTest(long seed, List<Method> methods) {
        random = new Random(seed);
        this.methods = methods;
    }

    public static void main(String[] args) {
        List<Method> methods = faceInOrder();
        int agreed = 0;
        for (int seed = 1; seed <= RUNS; seed++) {
            ModelTest run = new ModelTest(seed, methods);
            if (!run.agrees()) {
                System.out.println("seed " + seed + ": " + String.join("\n", run.told.subList(
                    Math.max(0, run.told.size() - 40), run.told.size())));
                System.exit(1);
            }
            agreed++;
        }
        Check.is("runs that agree with the model", agreed, RUNS);
        Check.finish();
    }

    /** The order of getDeclaredMethods is free, so that they are put in order: a seed tells one run. */
    private static List<Method> faceInOrder() {
        List<Method> methods = new ArrayList<>();
        for (Method m : EchoLine.class.getDeclaredMethods()) {
            if (java.lang.reflect.Modifier.isPublic(m.getModifiers())) {
                methods.add(m);
            }
        }
        methods.sort((a, b) -> a.getName().compareTo(b.getName()));
        return methods;
    }

    private boolean agrees() {
        boolean agreed = random.nextInt(10) == 0 || give(text());
        while (agreed && calls < CALLS) {
            agreed = next();
        }
        return agreed;
    }

    private boolean next() {
        int choice = random.nextInt(100);
        if (choice < 2) {
            return give(text());
        }
        if (choice < 3) {
            return findSome();
        }
        if (choice < 12) {
            return both("type", line(), value(), 1 + random.nextInt(random.nextBoolean() ? 4 : 60));
        }
        if (choice < 16) {
            return both("reply", line(), value(), 1 + random.nextInt(random.nextBoolean() ? 4 : 60));
        }
        if (choice < 28) {
            return both("tick", 1 + random.nextInt(random.nextInt(4) > 0 ? 5 : 200));
        }
        if (choice < 34) {
            return both("lend", line(), line(), 1 + random.nextInt(random.nextBoolean() ? 3 : 99));
        }
        if (choice < 36) {
            return both("setMarks", line(), random.nextInt(12), random.nextInt(14));
        }
        if (choice < 37) {
            return both("breakLine", line(), 1 + random.nextInt(random.nextBoolean() ? 4 : 50));
        }
        Method m = methods.get(random.nextInt(methods.size()));
        // Texts are given whole, and no run may be longer than what the document promises.
        if (m.getName().equals("load") || m.getName().equals("append") && random.nextInt(10) > 0) {
            return true;
        }
        return both(m.getName(), arguments(m));
    }

    private Object[] arguments(Method m) {
        Class<?>[] types = m.getParameterTypes();
        Object[] arguments = new Object[types.length];
        for (int i = 0; i < types.length; i++) {
            arguments[i] = types[i] == boolean.class ? (Object) random.nextBoolean() : (Object) argument(m, i);
        }
        return arguments;
    }

    private int argument(Method m, int i) {
        if (random.nextInt(12) == 0) {
            return ODD[random.nextInt(ODD.length)];
        }
        if (m.getName().equals("tick") || m.getName().endsWith("In") && i == 1 || m.getName().equals("droppedBy") && i == 1) {
            return random.nextInt(30);
        }
        if (m.getName().equals("setPaused") || i == 0 && m.getParameterCount() > 1 && !m.getName().equals("logged")) {
            return line();
        }
        return random.nextInt(random.nextBoolean() ? 6 : 14);
    }

    private int line() {
        calls++;
        int lines = subject.property(0);
        return random.nextInt(20) == 0 ? random.nextInt(8) - 1 : random.nextInt(lines);
    }

    private int value() {
        return random.nextInt(4) == 0 ? 13 : random.nextInt(40) == 0 ? ODD[random.nextInt(ODD.length)] : 1 + random.nextInt(127);
    }

    private boolean findSome() {
        String name = random.nextBoolean() ? name(random.nextInt(7)) : List.of("", "a ", "linea", "x", "A", "abcdefg").get(
            random.nextInt(6));
        return fill(name) && both("find");
    }

    private boolean give(String text) {
        return fill(text) && both("load") && both("errorCode") && both("errorPosition");
    }

    private boolean fill(String text) {
        boolean agreed = both("truncate", 0);
        for (int i = 0; i < text.length() && agreed; i += 20) {
            agreed = both("append", Check.four(text, i), Check.four(text, i + 4), Check.four(text, i + 8),
                Check.four(text, i + 12), Check.four(text, i + 16));
        }
        return agreed && both("truncate", text.length());
    }

    private static String name(int i) {
        return List.of("a", "bb", "linea", "typist", "e", "zz", "q").get(i);
    }

    /** A text that is mostly in order; some have a token or a byte too much, too little or changed. */
    private String text() {
        StringBuilder text = new StringBuilder();
        int lines = 1 + random.nextInt(6);
        for (int i = 0; i < lines; i++) {
            int capacity = random.nextInt(6) == 0 ? 4 + random.nextInt(57) : 4 + random.nextInt(8);
            int low = random.nextInt(capacity);
            int high = low + 1 + random.nextInt(capacity - low);
            text.append("line ").append(name(i)).append(" cap ").append(capacity).append(" marks ").append(low).append(' ')
                .append(high).append(" share ").append(1 + random.nextInt(random.nextBoolean() ? 9 : 3))
                .append(List.of("", " echo none", " echo each", " echo whole").get(random.nextInt(4))).append(";");
        }
        for (int i = 0; i < lines; i++) {
            if (random.nextInt(3) == 0 && lines > 1) {
                text.append("lend ").append(name(i)).append(" to ").append(name((i + 1 + random.nextInt(lines - 1)) % lines))
                    .append(" for ").append(1 + random.nextInt(random.nextBoolean() ? 3 : 99)).append(" ;\n");
            }
        }
        while (random.nextInt(3) > 0) {
            text.append("type ").append(name(random.nextInt(lines)));
            for (int i = random.nextInt(9); i >= 0; i--) {
                text.append(' ').append(random.nextInt(3) == 0 ? 13 : 1 + random.nextInt(random.nextBoolean() ? 9 : 127));
            }
            text.append(";");
        }
        String whole = random.nextInt(3) == 0 ? spoiled(text.toString()) : text.toString();
        return whole.substring(0, Math.min(whole.length(), 400));
    }

    private String spoiled(String text) {
        List<String> tokens = new ArrayList<>(Arrays.asList(text.split("(?<=[ ;])|(?=[ ;])")));
        List<String> others = List.of("line", "cap", "7", "0", "128", "100", "00061", "3", "1", "99999999999999999999", ";", "A",
            "abcdefg", "a", "bb", "e", "to", "for", "type", "echo", "each", "none", "\u00e9", "\u0000", "-1", "\t", "line x", " ",
            "type a 1 1 1 1 1 1 1 1 1 1 1 1 1 1 1 1 1 1 1 1 1 1 1 1 1 1 1 1 1 1 1 1 1 1 1 1 1 1 1 1 1 1 1 1 1 1 1 1 1 1 1 1;");
        int at = random.nextInt(tokens.size());
        switch (random.nextInt(4)) {
            case 0: tokens.remove(at); break;
            case 1: tokens.add(at, others.get(random.nextInt(others.size()))); break;
            case 2: tokens.set(at, others.get(random.nextInt(others.size()))); break;
            default: return text.substring(0, random.nextInt(text.length()));
        }
        return String.join("", tokens);
    }

    private boolean both(String name, Object... arguments) {
        calls++;
        String due = answer(model, name, arguments);
        String got = answer(subject, name, arguments);
        told.add(name + Arrays.toString(arguments) + " answered " + got + ", due is " + due);
        if (!got.equals(due)) {
            return false;
        }
        return !name.startsWith("write") || due.startsWith("java") || sameOutput(Integer.parseInt(due));
    }

    private boolean sameOutput(int length) {
        calls += length + 1;
        for (int i = 0; i <= length; i++) {
            if (!answer(subject, "outputByte", i).equals(answer(model, "outputByte", i))) {
                return false;
            }
        }
        return true;
    }

    private static String answer(Object asked, String name, Object... arguments) {
        try {
            for (Method m : asked.getClass().getDeclaredMethods()) {
                if (m.getName().equals(name) && java.lang.reflect.Modifier.isPublic(m.getModifiers())) {
                    return String.valueOf(m.invoke(asked, arguments));
                }
            }
            return "no method " + name;
        } catch (InvocationTargetException e) {
            return e.getCause().getClass().getName();
        } catch (IllegalAccessException e) {
            return e.toString();
        }
    }
}
