/** Promises 25 to 31: numbers over the lines and the log. */
public final class NumbersTest {
    private static final String THREE = "line a cap 6 marks 1 3 share 2 echo each;line b cap 6 marks 2 5 share 1;"
        + "line c cap 6 marks 0 2 share 3;";

    public static void main(String[] args) {
        fullest();
        busiest();
        share();
        meanWait();
        longestRun();
        gapAndSum();
        Check.finish();
    }

    private static void fullest() {
        Check.is("all are empty", Check.loaded(THREE).fullest(), 0);
        Check.is("IN and OUT count", Check.loaded(THREE + "type b 1 2 3;type a 1 2;").fullest(), 0);
        Check.is("more in one", Check.loaded(THREE + "type b 1 2 3;type a 1;type c 1 2;").fullest(), 1);
        Check.is("the lowest of several", Check.loaded(THREE + "type b 1 2;type c 1 2;").fullest(), 1);
        Check.is("the last", Check.loaded(THREE + "type b 1 2;type c 1 2 3;").fullest(), 2);
    }

    private static void busiest() {
        EchoLine x = Check.loaded(THREE + "type a 1;type b 1 2;type c 1 2 3;");
        Check.is("none was sent", x.busiest(), EchoLine.NONE);
        x.tick(2);
        Check.is("the lowest of two", x.busiest(), 0);
        x.tick(2);
        Check.is("two of c", x.busiest(), 2);
        x.tick(2);
        Check.is("three of c", x.busiest(), 2);
    }

    private static void share() {
        EchoLine x = Check.loaded(THREE + "type a 1;type c 1 2;");
        Check.is("none was sent", x.share(0), 0.0f);
        x.tick(1);
        Check.is("all", x.share(0), 1.0f);
        x.tick(2);
        Check.is("a third", x.share(0), 1.0f / 3.0f);
        Check.is("two thirds", x.share(2), 2.0f / 3.0f);
        Check.is("none of b", x.share(1), 0.0f);
        Check.raisesIndex("share(3)", () -> x.share(3));
        Check.raisesIndex("share(-1)", () -> x.share(-1));
    }

    private static void meanWait() {
        EchoLine x = Check.loaded(THREE + "type c 1 2 3;");
        Check.is("none was sent", x.meanWait(2), 0.0);
        x.tick(2);
        Check.is("1 and 2", x.meanWait(2), 1.5);
        x.type(0, 1, 1);
        x.tick(1);
        Check.is("1, 2 and 3", x.meanWait(2), 2.0);
        Check.is("none of a yet", x.meanWait(0), 0.0);
        x.tick(1);
        Check.is("2", x.meanWait(0), 2.0);
        Check.raisesIndex("meanWait(3)", () -> x.meanWait(3));
        Check.raisesIndex("meanWait(-1)", () -> x.meanWait(-1));
        EchoLine late = Check.loaded(THREE + "lend a to b for 1;type a 1 2 3;");
        for (int i = 0; i < 100; i++) {
            late.tick(200);
        }
        late.recall(0);
        late.tick(3);
        Check.is("long waits", late.meanWait(0), 20002.0);
        Check.is("the greatest of them", late.count(0, 11), 20003);
    }

    private static void longestRun() {
        EchoLine x = Check.loaded(THREE + "type a 1;type b 1 2;type c 1 2 3;");
        Check.is("empty log", x.longestRun(), 0);
        x.tick(1);
        Check.is("a", x.longestRun(), 1);
        x.tick(1);
        Check.is("a b", x.longestRun(), 1);
        x.tick(3);
        Check.is("a b c c c", x.longestRun(), 3);
        x.tick(1);
        Check.is("a b c c c b", x.longestRun(), 3);
        EchoLine many = new EchoLine();
        for (int i = 0; i < 9; i++) {
            many.type(0, 1, 5);
            many.tick(5);
        }
        Check.is("45 bytes were sent", many.property(5), 45);
        Check.is("of the last 40", many.longestRun(), 40);
    }

    private static void gapAndSum() {
        EchoLine x = Check.loaded(THREE + "lend b to c for 2;type a 1 2 3 4 5 6 7;type c 7 8 9;");
        x.tick(3);
        x.type(1, 9, 60);
        x.breakLine(0, 4);
        x.type(0, 9, 2);
        x.tick(2);
        for (int line = 0; line < 3; line++) {
            Check.is("gap(" + line + ")", x.gap(line), 0);
        }
        Check.raisesIndex("gap(3)", () -> x.gap(3));
        Check.raisesIndex("gap(-1)", () -> x.gap(-1));
        int[] due = {72, 5, 57, 4, 6, 3, 0, 3, 3, 1, 1, 7};
        for (int what = 0; what <= 11; what++) {
            int sum = 0;
            for (int line = 0; line < 3; line++) {
                sum += x.count(line, what);
            }
            Check.is("sum(" + what + ") by the counts", x.sum(what), sum);
            Check.is("sum(" + what + ")", x.sum(what), due[what]);
        }
        Check.raisesArgument("sum(12)", () -> x.sum(12));
        Check.raisesArgument("sum(-1)", () -> x.sum(-1));
    }
}
