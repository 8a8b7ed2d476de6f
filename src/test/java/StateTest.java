/** Promises 8 to 13: what is, in numbers. */
public final class StateTest {
    private static final String THREE = "line a cap 6 marks 1 3 share 2 echo each;line b cap 8 marks 2 5 share 1 echo whole;"
        + "line c cap 4 marks 0 2 share 3;";

    public static void main(String[] args) {
        property();
        line();
        whole();
        stops();
        count();
        waits();
        queued();
        delivered();
        logged();
        Check.finish();
    }

    private static void property() {
        EchoLine x = Check.loaded(THREE + "lend b to c for 2;type a 1 2 3;type c 7;");
        int[] due = {3, 0, 0, 0, 2, 0, 0, 0, 1, 0, 2};
        for (int what = 0; what < due.length; what++) {
            Check.is("property(" + what + ")", x.property(what), due[what]);
        }
        x.tick(2);
        int[] then = {3, 2, 1, 2, 1, 2, 0, 0, 0, 0, 2};
        for (int what = 0; what < then.length; what++) {
            Check.is("property(" + what + ") then", x.property(what), then[what]);
        }
        x.breakLine(0, 2);
        x.setPaused(2, true);
        x.setPaused(0, true);
        x.tick(2);
        Check.is("bytes sent", x.property(5), 3);
        Check.is("idle ticks", x.property(6), 1);
        Check.is("held lines", x.property(7), 0);
        Check.is("paused lines", x.property(9), 5);
        x.breakLine(2, 1);
        x.breakLine(1, 50);
        Check.is("held lines then", x.property(7), 6);
        Check.raisesArgument("property(11)", () -> x.property(11));
        Check.raisesArgument("property(-1)", () -> x.property(-1));
    }

    private static void line() {
        EchoLine x = Check.loaded(THREE + "lend a to c for 7;type a 1;type b 1 2 13 4;");
        int[] due = {8, 2, 5, 1, 2, 4, 3, 1, 0, -1, 0};
        for (int what = 0; what < due.length; what++) {
            Check.is("line(1, " + what + ")", x.line(1, what), due[what]);
        }
        Check.is("lends to", x.line(0, 9), 2);
        Check.is("lends turns", x.line(0, 10), 7);
        x.breakLine(1, 3);
        Check.is("held for", x.line(1, 8), 3);
        x.tick(1);
        Check.is("held for 1 less", x.line(1, 8), 2);
        x.tick(5);
        Check.is("held no more", x.line(1, 8), 0);
        Check.raisesIndex("line(3, 0)", () -> x.line(3, 0));
        Check.raisesIndex("line(-1, 0)", () -> x.line(-1, 0));
        Check.raisesIndex("line(3, 11)", () -> x.line(3, 11));
        Check.raisesArgument("line(0, 11)", () -> x.line(0, 11));
        Check.raisesArgument("line(0, -1)", () -> x.line(0, -1));
    }

    private static void whole() {
        EchoLine x = Check.loaded("line a cap 60 marks 1 60 share 9 echo whole;");
        x.type(0, 65, 59);
        x.tick(30);
        x.type(0, 66, 20);
        Check.is("a whole has at most 60 bytes", x.line(0, 7), 60);
        Check.is("nothing is offered ahead of a 13", x.count(0, 4), 0);
        x.type(0, 13, 1);
        Check.is("its own 13 did not come to it", x.count(0, 4), 60);
        Check.is("the whole is empty then", x.line(0, 7), 0);
        Check.is("its last byte", x.queued(0, true, 59), 66);
        x.tick(100);
        x.type(0, 13, 2);
        Check.is("each 13 alone is a whole", x.line(0, 6), 2);
        x.type(0, 70, 60);
        Check.is("bytes that are dropped do not come to it", x.line(0, 7), 58);
        EchoLine each = Check.loaded("line a cap 9 marks 1 9 share 9 echo each;type a 65 13;");
        Check.is("each: no whole", each.line(0, 7), 0);
        Check.is("each: a 13 is echoed once", each.line(0, 6), 2);
        EchoLine none = Check.loaded("line a cap 9 marks 1 9 share 9;type a 65 13;");
        Check.is("none: no echo", none.count(0, 4), 0);
    }

    private static void stops() {
        EchoLine x = Check.loaded("line a cap 9 marks 1 3 share 9;");
        x.type(0, 1, 2);
        Check.is("not stopping with 2", x.property(8), 0);
        x.type(0, 1, 1);
        Check.is("stopping with 3", x.property(8), 1);
        x.type(0, 1, 2);
        x.tick(3);
        Check.is("stopping still with 2", x.property(8), 1);
        x.type(0, 1, 2);
        Check.is("that is one stop", x.count(0, 8), 1);
        x.tick(3);
        Check.is("not any more with 1", x.property(8), 0);
        x.type(0, 1, 2);
        Check.is("a second stop", x.count(0, 8), 2);
        x.breakLine(0, 1);
        Check.is("not any more behind a break", x.property(8), 0);
    }

    private static void count() {
        EchoLine x = Check.loaded(THREE + "lend b to c for 2;type a 1 2 3 4 5 6 7;type c 7 8 9;");
        x.tick(3);
        x.reply(1, 9, 12);
        x.breakLine(0, 1);
        x.breakLine(1, 1);
        x.tick(3);
        int[][] due = {{7, 2, 1, 4, 6, 3, 0, 3, 1, 1, 0, 2}, {0, 0, 0, 0, 12, 0, 4, 8, 0, 1, 0, 0},
            {3, 3, 0, 0, 0, 0, 0, 0, 1, 0, 1, 5}};
        for (int line = 0; line < 3; line++) {
            for (int what = 0; what <= 11; what++) {
                Check.is("count(" + line + ", " + what + ")", x.count(line, what), due[line][what]);
            }
        }
        Check.raisesIndex("count(3, 0)", () -> x.count(3, 0));
        Check.raisesIndex("count(-1, 12)", () -> x.count(-1, 12));
        Check.raisesArgument("count(0, 12)", () -> x.count(0, 12));
        Check.raisesArgument("count(0, -1)", () -> x.count(0, -1));
    }

    private static void waits() {
        EchoLine x = Check.loaded(THREE);
        x.type(2, 1, 1);
        x.pass();
        x.breakLine(0, 3);
        x.lend(2, 1, 1);
        x.tick(2);
        x.type(2, 2, 1);
        x.recall(2);
        x.tick(1);
        Check.is("wait of the first byte", x.logged(0, 4), 3);
        x.tick(1);
        Check.is("wait of the second byte", x.logged(0, 4), 2);
        Check.is("the greatest wait stays", x.count(2, 11), 3);
        Check.is("the mean wait", x.meanWait(2), 2.5);
        x.type(2, 3, 2);
        x.tick(2);
        x.type(2, 3, 1);
        x.breakLine(2, 1);
        x.tick(1);
        x.type(2, 4, 1);
        x.tick(1);
        Check.is("wait of a byte behind a break", x.logged(0, 4), 1);
        Check.is("the greatest wait stays then", x.count(2, 11), 3);
        Check.is("a line that does not lend, behind its turn", x.line(2, 10), 0);
        Check.is("nothing lent", x.property(10), 0);
    }

    private static void queued() {
        EchoLine x = Check.loaded(THREE + "type a 1 2 127;");
        x.reply(0, 99, 1);
        int[] out = {1, 2, 127, 99};
        for (int i = 0; i < out.length; i++) {
            Check.is("OUT " + i, x.queued(0, true, i), out[i]);
        }
        Check.is("IN 2", x.queued(0, false, 2), 127);
        x.tick(1);
        Check.is("IN 0 then", x.queued(0, false, 0), 2);
        Check.is("OUT 0 then", x.queued(0, true, 0), 2);
        Check.raisesIndex("IN 2 then", () -> x.queued(0, false, 2));
        Check.raisesIndex("OUT 3 then", () -> x.queued(0, true, 3));
        Check.raisesIndex("IN -1", () -> x.queued(0, false, -1));
        Check.raisesIndex("OUT -1", () -> x.queued(0, true, -1));
        Check.raisesIndex("line 3", () -> x.queued(3, true, 0));
        Check.raisesIndex("line -1", () -> x.queued(-1, false, 0));
        Check.raisesIndex("empty IN", () -> x.queued(1, false, 0));
    }

    private static void delivered() {
        EchoLine x = Check.loaded(THREE + "type a 5 6;");
        Check.is("delivered at first", x.delivered(0), EchoLine.NONE);
        x.tick(1);
        Check.is("delivered then", x.delivered(0), 5);
        x.setPaused(0, true);
        x.tick(1);
        Check.is("delivered while paused", x.delivered(0), 5);
        x.setPaused(0, false);
        x.tick(9);
        Check.is("delivered last", x.delivered(0), 6);
        x.reply(0, 7, 1);
        x.breakLine(0, 2);
        x.tick(1);
        x.reply(0, 8, 1);
        Check.is("delivered while held", x.delivered(0), 6);
        Check.raisesIndex("delivered(3)", () -> x.delivered(3));
        Check.raisesIndex("delivered(-1)", () -> x.delivered(-1));
    }

    private static void logged() {
        EchoLine x = Check.loaded(THREE + "lend a to c for 1;type c 100 101;");
        x.tick(1);
        x.type(1, 50, 1);
        x.tick(3);
        int[][] due = {{3, 1, 1, 50, 2}, {2, 2, 0, 101, 2}, {1, 2, 0, 100, 1}};
        for (int i = 0; i < due.length; i++) {
            for (int what = 0; what <= 4; what++) {
                Check.is("logged(" + i + ", " + what + ")", x.logged(i, what), due[i][what]);
            }
        }
        Check.raisesIndex("logged(3, 0)", () -> x.logged(3, 0));
        Check.raisesIndex("logged(-1, 0)", () -> x.logged(-1, 0));
        Check.raisesIndex("logged(3, 5)", () -> x.logged(3, 5));
        Check.raisesArgument("logged(0, 5)", () -> x.logged(0, 5));
        Check.raisesArgument("logged(0, -1)", () -> x.logged(0, -1));
        for (int i = 0; i < 45; i++) {
            x.type(1, 1 + i, 1);
            x.tick(1);
        }
        Check.is("the latest of many", x.logged(0, 3), 45);
        Check.is("the earliest of 40", x.logged(39, 3), 6);
        Check.raisesIndex("logged(40, 0)", () -> x.logged(40, 0));
    }
}
