/** The edges of section 3 and of what is told of turns: shares, turns that are lent, looks, the log, waits, what would be. */
public final class TurnEdgesTest {
    public static void main(String[] args) {
        theTurnAtFirst();
        bytesLeftFromTheShareToNone();
        passBehindTheLastLine();
        turnsPassBehindTheLastLineByTicks();
        looksAsOftenAsThereAreLines();
        noLookMoreThanLines();
        oneLineAlone();
        lentTurnsFrom1To99();
        onlyTurnsWithAByteCount();
        aTurnCountsOnce();
        whatIsCalledWithinATurn();
        senderAtOnce();
        recallOfNoneAndOf99();
        shareOf1AndOf9();
        ticksFrom1To200();
        idleTicks();
        heldAndPausedInTheirTick();
        logFromNoneTo40();
        longestRunFromNoneTo40();
        waitsFrom1On();
        meansAndShares();
        busiestAndItsTies();
        nextSenderAndNone();
        sendsInFrom1On();
        emptyInFrom0On();
        quietInFrom0On();
        sentInFrom0To500();
        deliveredInFrom0To500();
        droppedByFrom1To500();
        sentIfLentIn100Ticks();
        bestBorrowerIn100Ticks();
        Check.finish();
    }

    /** Lines a, b, .. with wide queues, without echo, with these shares. */
    private static String lines(int... shares) {
        StringBuilder text = new StringBuilder();
        for (int i = 0; i < shares.length; i++) {
            text.append("line ").append((char) ('a' + i)).append(" cap 60 marks 0 60 share ").append(shares[i]).append(';');
        }
        return text.toString();
    }

    private static int[] ones(int many) {
        int[] shares = new int[many];
        java.util.Arrays.fill(shares, 1);
        return shares;
    }

    private static String log(EchoLine x) {
        return Check.output(x, x.writeLog());
    }

    private static void theTurnAtFirst() {
        EchoLine x = new EchoLine();
        Check.is("turn", x.property(2), 0);
        Check.is("sender", x.property(3), 0);
        Check.is("left as its share 1", x.property(4), 1);
        for (int share = 1; share <= 9; share++) {
            EchoLine y = Check.loaded(lines(share, 10 - share));
            Check.is("left as its share", y.property(4), share);
            Check.is("turn of the line 0", y.property(2), 0);
            y.pass();
            Check.is("left as the share of the next", y.property(4), 10 - share);
        }
        EchoLine z = Check.loaded(lines(2, 3) + "type b 1;");
        z.tick(1);
        Check.load(z, lines(4, 5));
        Check.is("turn of a text", z.property(2), 0);
        Check.is("left of a text", z.property(4), 4);
    }

    private static void bytesLeftFromTheShareToNone() {
        for (int share : new int[] {1, 2, 8, 9}) {
            EchoLine x = Check.loaded(lines(share, 3));
            x.type(0, 1, 60);
            for (int sent = 0; sent < share; sent++) {
                Check.is("the turn stays", x.property(2), 0);
                Check.is("left of " + share, x.property(4), share - sent);
                x.tick(1);
            }
            Check.is("with 0 left it passes on", x.property(2), 1);
            Check.is("left is the next one's share", x.property(4), 3);
            Check.is("as many bytes as the share were sent", x.count(0, 1), share);
        }
    }

    private static void passBehindTheLastLine() {
        for (int many = 1; many <= 6; many++) {
            EchoLine x = Check.loaded(lines(java.util.Arrays.copyOf(new int[] {1, 2, 3, 4, 5, 6}, many)));
            for (int i = 1; i <= 2 * many; i++) {
                Check.is("pass " + i + " of " + many, x.pass(), i % many);
                Check.is("turn", x.property(2), i % many);
                Check.is("left", x.property(4), i % many + 1);
            }
            Check.is("no time passes", x.property(1), 0);
        }
        Check.is("the line of a new object", new EchoLine().pass(), 0);
    }

    private static void turnsPassBehindTheLastLineByTicks() {
        for (int many = 1; many <= 6; many++) {
            EchoLine x = Check.loaded(lines(ones(many)));
            for (int line = 0; line < many; line++) {
                x.type(line, 1, 3);
            }
            x.tick(3 * many - 1);
            Check.is("the last one has the turn", x.property(2), many - 1);
            x.tick(1);
            Check.is("behind it the first one", x.property(2), 0);
            Check.is("in turns", log(x), "012345".substring(0, many).repeat(3).substring(Math.max(0, 3 * many - 20)));
        }
    }

    /** The last look is at the line ahead of the one that has the turn. */
    private static void looksAsOftenAsThereAreLines() {
        for (int many = 1; many <= 6; many++) {
            for (int from = 0; from < many; from++) {
                EchoLine x = Check.loaded(lines(ones(many)));
                for (int i = 0; i < from; i++) {
                    x.pass();
                }
                int last = (from + many - 1) % many;
                x.type(last, 7, 2);
                Check.is("the last of " + many + " looks finds it", x.tick(1), 1);
                Check.is("its line", x.logged(0, 1), last);
                Check.is("no idle tick", x.property(6), 0);
                Check.is("the turn is behind it", x.property(2), from);
                x.tick(1);
                Check.is("also with a second one", x.property(5), 2);
                Check.is("none is left", x.tick(1), 0);
                Check.is("all looks bring the turn to where it was", x.property(2), from);
            }
        }
    }

    /** A lend ends at the first look, but its line is not looked at again in this tick. */
    private static void noLookMoreThanLines() {
        for (int many = 2; many <= 6; many++) {
            int[] shares = ones(many);
            shares[0] = 2;
            EchoLine x = Check.loaded(lines(shares) + "lend a to b for 1;type a 1;type b 2;");
            Check.is("b sends in a's turn", x.tick(1), 1);
            Check.is("1 is left", x.property(4), 1);
            Check.is("b is empty, all others too, but a", x.tick(1), 0);
            Check.is("the turn is a's again", x.property(2), 0);
            Check.is("a lends no more", x.property(10), 0);
            Check.is("left", x.property(4), 2);
            Check.is("an idle tick", x.property(6), 1);
            Check.is("a sends then", x.tick(1), 1);
            Check.is("in its own turn", log(x), "1^00");
        }
    }

    private static void oneLineAlone() {
        EchoLine x = Check.loaded(lines(9) + "type a 1;");
        x.tick(1);
        Check.is("8 are left", x.property(4), 8);
        Check.is("nothing to send", x.tick(1), 0);
        Check.is("the turn passes on to itself", x.property(4), 9);
        Check.is("turn", x.property(2), 0);
        x.type(0, 1, 60);
        Check.is("it sends in each tick", x.tick(60), 60);
        Check.is("6 full turns and 6 bytes", x.property(4), 3);
    }

    private static void lentTurnsFrom1To99() {
        for (int turns : new int[] {1, 2, 3, 98, 99}) {
            EchoLine x = Check.loaded(lines(1, 1) + "lend a to b for " + turns + ";");
            for (int used = 1; used <= Math.min(turns, 59); used++) {
                x.type(1, 1, 1);
                Check.is("turns before", x.line(0, 10), turns - used + 1);
                x.tick(1);
                Check.is("turns behind", x.line(0, 10), turns - used);
                Check.is("it lends", x.line(0, 9), turns == used ? EchoLine.NONE : 1);
                Check.is("set of those that lend", x.property(10), turns == used ? 0 : 1);
                x.pass();
            }
            Check.is("sent in turns of other lines", x.count(1, 10), Math.min(turns, 59));
        }
        EchoLine x = Check.loaded(lines(1, 1) + "lend a to b for 1;type a 5;type b 6 7 8;");
        x.tick(4);
        Check.is("a lends one turn and sends in its next one", log(x), "1^0101");
    }

    private static void onlyTurnsWithAByteCount() {
        EchoLine x = Check.loaded(lines(2, 1) + "lend a to b for 2;");
        x.tick(200);
        x.pass();
        x.pass();
        Check.is("turns without a byte do not count", x.line(0, 10), 2);
        x.type(1, 1, 1);
        while (x.property(2) != 0) {
            x.pass();
        }
        x.tick(1);
        Check.is("within its turn it lends as before", x.line(0, 10), 2);
        Check.is("the turn passes on", x.pass(), 1);
        Check.is("a turn with one byte of two counts", x.line(0, 10), 1);
        x.pass();
        x.pass();
        Check.is("the next one without a byte does not", x.line(0, 10), 1);
        // The borrower's own turn is not that of the lender.
        EchoLine y = Check.loaded(lines(1, 1) + "lend a to b for 5;");
        y.pass();
        y.type(1, 1, 1);
        y.tick(1);
        Check.is("b sends in its own turn", y.line(0, 10), 5);
        Check.is("and not in that of another line", y.count(1, 10), 0);
    }

    private static void aTurnCountsOnce() {
        EchoLine x = Check.loaded(lines(9, 1) + "lend a to b for 5;type b 1 2 3 4 5 6 7 8 9 10;");
        x.tick(8);
        Check.is("8 bytes of a turn of 9", x.line(0, 10), 5);
        x.tick(1);
        Check.is("the 9th ends it", x.line(0, 10), 4);
        Check.is("9 bytes were sent in a's turn", x.count(1, 10), 9);
        Check.is("turn", x.property(2), 1);
    }

    private interface Change {
        void of(EchoLine x);
    }

    /** A byte was sent in this turn, whatever was called behind it, until the turn passes on. */
    private static void whatIsCalledWithinATurn() {
        Change[] changes = {x -> x.recall(0), x -> x.lend(0, 1, 9), x -> x.type(0, 13, 9), x -> x.reply(0, 1, 1),
            x -> x.breakLine(0, 5), x -> x.breakLine(1, 5), x -> x.setPaused(0, true), x -> x.setEcho(0, 1),
            x -> x.setMarks(0, 0, 1), x -> x.setShare(0, 1), x -> x.setShare(1, 9), x -> x.sentIn(0, 500), x -> x.keep(0),
            x -> x.find(), x -> x.writeLog(), x -> Check.load(x, "line a")};
        for (int i = 0; i < changes.length; i++) {
            EchoLine x = Check.loaded(lines(3, 2) + "type a 1;");
            x.tick(1);
            changes[i].of(x);
            Check.is("the turn stays, call " + i, x.property(2), 0);
            Check.is("the bytes left stay, call " + i, x.property(4), 2);
            x.lend(0, 1, 5);
            x.pass();
            Check.is("a turn with a byte, call " + i, x.line(0, 10), 4);
            EchoLine y = Check.loaded(lines(3, 2) + "type a 1;");
            changes[i].of(y);
            y.lend(0, 1, 5);
            y.pass();
            Check.is("a turn without one, call " + i, y.line(0, 10), 5);
        }
    }

    private static void senderAtOnce() {
        EchoLine x = Check.loaded(lines(3, 1, 1) + "type a 1 2;type b 3 4;type c 5 6;");
        Check.is("a", x.property(3), 0);
        x.tick(1);
        x.lend(0, 2, 1);
        Check.is("c at once", x.property(3), 2);
        Check.is("the bytes left stay", x.property(4), 2);
        x.lend(0, 1, 99);
        Check.is("b at once", x.property(3), 1);
        x.tick(1);
        x.recall(0);
        Check.is("a at once", x.property(3), 0);
        x.tick(1);
        Check.is("all in one turn of a", log(x), "01^00");
        Check.is("which has passed on", x.property(2), 1);
        x.lend(0, 1, 1);
        Check.is("a lend of a line that has not the turn", x.property(3), 1);
        x.lend(2, 0, 1);
        Check.is("nor has that one", x.property(3), 1);
        x.lend(1, 2, 1);
        Check.is("c, though c lends too", x.property(3), 2);
    }

    private static void recallOfNoneAndOf99() {
        EchoLine x = Check.loaded(lines(1, 1));
        Check.is("it lends none", x.recall(0), 0);
        Check.is("lent before: NONE", x.lend(0, 1, 99), EchoLine.NONE);
        Check.is("lent before: b", x.lend(0, 1, 1), 1);
        Check.is("in place of 99", x.recall(0), 1);
        x.lend(0, 1, 99);
        Check.is("99", x.recall(0), 99);
        Check.is("none again", x.recall(0), 0);
        Check.is("it lends to no one", x.line(0, 9), EchoLine.NONE);
        Check.is("lent before: NONE again", x.lend(0, 1, 1), EchoLine.NONE);
        x.type(1, 1, 1);
        x.tick(1);
        Check.is("its only turn is used", x.recall(0), 0);
        Check.is("and it lends to no one", x.lend(0, 1, 1), EchoLine.NONE);
    }

    private static void shareOf1AndOf9() {
        EchoLine x = Check.loaded(lines(9, 1));
        x.type(0, 1, 60);
        Check.is("share before", x.setShare(0, 1), 9);
        Check.is("bytes left stay, though they are more", x.property(4), 9);
        x.tick(8);
        Check.is("the turn stays so long", x.property(2), 0);
        x.tick(1);
        Check.is("and passes on", x.property(2), 1);
        x.pass();
        Check.is("the next turn has the new share", x.property(4), 1);
        Check.is("share before then", x.setShare(0, 9), 1);
        Check.is("bytes left stay, though they are less", x.property(4), 1);
        x.tick(1);
        Check.is("it passes on behind 1", x.property(2), 1);
        x.setShare(1, 9);
        Check.is("bytes left of an empty line stay", x.property(4), 1);
    }

    private static void ticksFrom1To200() {
        EchoLine x = Check.loaded(lines(9, 9, 9, 9));
        for (int line = 0; line < 4; line++) {
            x.type(line, 1, 60);
        }
        Check.is("1 tick", x.tick(1), 1);
        Check.is("time", x.property(1), 1);
        Check.is("200 ticks", x.tick(200), 200);
        Check.is("time then", x.property(1), 201);
        Check.is("sent", x.property(5), 201);
        Check.is("the last 39 of 199", x.tick(199), 39);
        Check.is("idle", x.property(6), 160);
        Check.is("none", x.tick(200), 0);
        Check.is("idle then", x.property(6), 360);
        Check.is("time at last", x.property(1), 600);
    }

    private static void idleTicks() {
        EchoLine x = new EchoLine();
        x.tick(1);
        Check.is("one", x.property(6), 1);
        x.type(0, 1, 1);
        x.tick(1);
        Check.is("a byte was sent", x.property(6), 1);
        x.reply(0, 1, 1);
        x.tick(1);
        Check.is("a byte that is delivered is not sent", x.property(6), 2);
        x.breakLine(0, 1);
        x.tick(1);
        Check.is("the line is held no more, and empty", x.property(6), 3);
    }

    private static void heldAndPausedInTheirTick() {
        EchoLine x = Check.loaded("line a cap 60 marks 0 60 share 9 echo each;line b cap 60 marks 0 60 share 9;");
        x.setPaused(0, true);
        x.type(0, 7, 3);
        x.tick(2);
        Check.is("a paused line sends", x.count(0, 1), 2);
        Check.is("nothing is delivered to it", x.count(0, 5), 0);
        x.setPaused(0, false);
        x.tick(1);
        Check.is("one byte a tick", x.count(0, 5), 1);
        EchoLine y = Check.loaded("line a cap 60 marks 0 60 share 9 echo each;line b cap 60 marks 0 60 share 9;");
        y.type(0, 65, 1);
        y.tick(1);
        Check.is("an echo is delivered in the tick that sends its byte", y.delivered(0), 65);
        y.lend(0, 1, 9);
        y.breakLine(1, 2);
        y.type(0, 1, 1);
        y.tick(2);
        Check.is("the borrower is held, and a is not looked at", y.count(0, 1), 1);
        y.recall(0);
        y.tick(1);
        Check.is("a is then", y.count(0, 1), 2);
    }

    /** Bytes 1, 2, .. that were sent by one line. */
    private static EchoLine sent(int many) {
        EchoLine x = Check.loaded(lines(9));
        for (int i = 1; i <= many; i++) {
            x.type(0, i, 1);
            x.tick(1);
        }
        return x;
    }

    private static void logFromNoneTo40() {
        for (int many : new int[] {0, 1, 2, 39, 40, 41, 42, 79, 80, 81, 120}) {
            EchoLine x = sent(many);
            int kept = Math.min(40, many);
            if (kept > 0) {
                Check.is("the last of " + many, x.logged(0, 3), many);
                Check.is("its time", x.logged(0, 0), many);
                Check.is("the first that is kept of " + many, x.logged(kept - 1, 3), many - kept + 1);
                Check.is("its time", x.logged(kept - 1, 0), many - kept + 1);
            }
            for (int i = 0; i < kept; i++) {
                Check.is("entry " + i + " of " + many, x.logged(i, 3), many - i);
            }
            Check.raisesIndex("entry " + kept + " of " + many, () -> x.logged(kept, 0));
            Check.raisesIndex("entry 40 of " + many, () -> x.logged(40, 0));
            Check.raisesIndex("entry -1 of " + many, () -> x.logged(-1, 0));
            Check.raisesIndex("the entry is looked at first", () -> x.logged(kept, 5));
            Check.is("bytes sent in all", x.property(5), many);
        }
    }

    private static void longestRunFromNoneTo40() {
        int[] many = {0, 1, 39, 40, 41, 80};
        int[] due = {0, 1, 39, 40, 40, 40};
        for (int i = 0; i < many.length; i++) {
            Check.is("run of " + many[i], sent(many[i]).longestRun(), due[i]);
        }
        EchoLine x = Check.loaded(lines(9, 9) + "type b 1;");
        x.tick(1);
        x.type(0, 1, 39);
        x.tick(39);
        Check.is("1 and 39", x.longestRun(), 39);
        x.type(0, 1, 1);
        x.tick(1);
        Check.is("40, when the first is kept no more", x.longestRun(), 40);
        EchoLine y = Check.loaded(lines(9, 9));
        y.type(0, 1, 3);
        y.tick(3);
        y.type(1, 1, 2);
        y.tick(2);
        y.type(0, 1, 2);
        y.tick(2);
        Check.is("at the beginning of the log", y.longestRun(), 3);
        y.type(0, 1, 2);
        y.tick(2);
        Check.is("at its end", y.longestRun(), 4);
        EchoLine z = Check.loaded(lines(1, 1) + "lend a to b for 9;type b 1 2 3;");
        z.tick(3);
        Check.is("which line had the turn does not count", z.longestRun(), 3);
    }

    private static void waitsFrom1On() {
        EchoLine x = Check.loaded(lines(9, 9));
        Check.is("0 without any", x.count(0, 11), 0);
        x.type(0, 1, 1);
        x.tick(1);
        Check.is("sent in the next tick", x.count(0, 11), 1);
        Check.is("in the log", x.logged(0, 4), 1);
        x.tick(7);
        x.type(0, 1, 4);
        x.tick(4);
        Check.is("the 4th of 4", x.count(0, 11), 4);
        x.type(0, 1, 3);
        x.tick(3);
        Check.is("less ones do not change it", x.count(0, 11), 4);
        x.type(0, 1, 5);
        x.tick(5);
        Check.is("greater ones do", x.count(0, 11), 5);
        Check.is("of this line alone", x.count(1, 11), 0);
        x.type(0, 1, 9);
        x.breakLine(0, 1);
        x.tick(20);
        Check.is("bytes that were broken do not count", x.count(0, 11), 5);
        EchoLine y = Check.loaded(lines(9, 9) + "lend a to b for 1;type a 1;");
        for (int i = 0; i < 100; i++) {
            y.tick(200);
        }
        y.recall(0);
        y.tick(1);
        Check.is("a great one", y.count(0, 11), 20001);
        Check.is("a great one in the log", y.logged(0, 4), 20001);
    }

    private static void meansAndShares() {
        EchoLine x = Check.loaded(lines(1, 1, 1));
        for (int line = 0; line < 3; line++) {
            Check.is("no share", x.share(line), 0.0f);
            Check.is("no mean", x.meanWait(line), 0.0);
        }
        x.type(0, 1, 1);
        Check.is("typed is not sent", x.share(0), 0.0f);
        x.tick(1);
        Check.is("all", x.share(0), 1.0f);
        Check.is("its mean", x.meanWait(0), 1.0);
        Check.is("none of the others", x.share(1), 0.0f);
        Check.is("no mean of the others", x.meanWait(1), 0.0);
        x.type(1, 1, 2);
        x.tick(2);
        Check.is("1 of 3 as a float", x.share(0), 1.0f / 3.0f);
        Check.is("2 of 3 as a float", x.share(1), 2.0f / 3.0f);
        x.type(2, 1, 4);
        x.tick(4);
        Check.is("1 of 7 as a float", x.share(0), 1.0f / 7.0f);
        Check.is("4 of 7 as a float", x.share(2), 4.0f / 7.0f);
        x.type(0, 1, 2);
        x.tick(2);
        Check.is("waits of 1, 1 and 2 as doubles", x.meanWait(0), 4.0 / 3.0);
        Check.is("waits of 1 and 2", x.meanWait(1), 1.5);
    }

    private static void busiestAndItsTies() {
        EchoLine x = Check.loaded(lines(1, 1, 1));
        Check.is("none was sent", x.busiest(), EchoLine.NONE);
        x.type(2, 1, 1);
        Check.is("typed is not sent", x.busiest(), EchoLine.NONE);
        x.tick(1);
        Check.is("the last line", x.busiest(), 2);
        x.type(1, 1, 1);
        x.tick(1);
        Check.is("the lowest of two", x.busiest(), 1);
        x.type(2, 1, 1);
        x.tick(1);
        Check.is("it has more", x.busiest(), 2);
        x.type(0, 1, 2);
        x.tick(2);
        Check.is("the line 0 has as many", x.busiest(), 0);
        Check.load(x, lines(1, 1));
        Check.is("none of a new text", x.busiest(), EchoLine.NONE);
    }

    private static void nextSenderAndNone() {
        Check.is("all are empty", new EchoLine().nextSender(), EchoLine.NONE);
        for (int many = 1; many <= 6; many++) {
            for (int line = 0; line < many; line++) {
                EchoLine x = Check.loaded(lines(ones(many)));
                x.type(line, 1, 1);
                Check.is("one alone", x.nextSender(), line);
                x.reply(many - 1, 1, 1);
                Check.is("OUT does not count", x.nextSender(), line);
            }
        }
        EchoLine late = Check.loaded(lines(2, 1) + "lend a to b for 1;type a 1;type b 2;");
        late.tick(1);
        Check.is("behind an idle tick", late.nextSender(), 0);
        EchoLine never = Check.loaded(lines(1, 1) + "lend a to b for 1;type a 1;");
        Check.is("never, as a lends for ever", never.nextSender(), EchoLine.NONE);
        Check.is("no time has passed", never.property(1), 0);
    }

    private static void sendsInFrom1On() {
        EchoLine x = Check.loaded(lines(9, 9, 9));
        Check.is("nothing to send", x.sendsIn(0), EchoLine.NONE);
        x.type(0, 1, 60);
        x.type(1, 1, 60);
        x.type(2, 1, 60);
        Check.is("in 1", x.sendsIn(0), 1);
        Check.is("in 10", x.sendsIn(1), 10);
        Check.is("in 19", x.sendsIn(2), 19);
        x.tick(9);
        Check.is("in 19 then", x.sendsIn(0), 19);
        Check.is("in 1 then", x.sendsIn(1), 1);
        x.lend(2, 0, 99);
        Check.is("c lends as long as a and b send", x.sendsIn(2), EchoLine.NONE);
        x.lend(2, 0, 1);
        Check.is("c lends one turn", x.sendsIn(2), 37);
        EchoLine late = Check.loaded(lines(2, 1) + "lend a to b for 1;type a 1;type b 2;");
        late.tick(1);
        Check.is("behind an idle tick", late.sendsIn(0), 2);
        Check.is("not again", late.sendsIn(1), EchoLine.NONE);
    }

    private static void emptyInFrom0On() {
        EchoLine x = Check.loaded(lines(9, 9));
        Check.is("it is empty", x.emptyIn(0), 0);
        x.type(0, 1, 1);
        Check.is("one byte", x.emptyIn(0), 1);
        x.type(0, 1, 59);
        Check.is("60 bytes", x.emptyIn(0), 60);
        x.type(1, 1, 60);
        // 54 bytes of each in 6 rounds of 18, 6 of a and 6 of b.
        Check.is("60 bytes in turns", x.emptyIn(0), 114);
        Check.is("60 bytes of the other line", x.emptyIn(1), 120);
        x.breakLine(0, 50);
        Check.is("a held line is empty", x.emptyIn(0), 0);
        x.lend(1, 0, 1);
        Check.is("never", x.emptyIn(1), EchoLine.NONE);
    }

    private static void quietInFrom0On() {
        EchoLine x = Check.loaded(lines(9, 9));
        Check.is("quiet now", x.quietIn(), 0);
        x.reply(1, 1, 1);
        Check.is("OUT", x.quietIn(), 1);
        x.type(0, 1, 1);
        Check.is("OUT and IN at once", x.quietIn(), 1);
        x.type(0, 1, 1);
        Check.is("IN longer", x.quietIn(), 2);
        x.reply(1, 1, 59);
        Check.is("OUT of 60", x.quietIn(), 60);
        x.setPaused(0, true);
        Check.is("a paused line without OUT", x.quietIn(), 60);
        x.setPaused(1, true);
        Check.is("never", x.quietIn(), EchoLine.NONE);
        x.breakLine(1, 50);
        Check.is("a break makes it quiet", x.quietIn(), 2);
    }

    private static void sentInFrom0To500() {
        EchoLine x = Check.loaded(lines(9, 9, 9, 9, 9, 9));
        for (int line = 0; line < 6; line++) {
            x.type(line, 1, 60);
        }
        Check.is("in 0", x.sentIn(0, 0), 0);
        Check.is("in 1", x.sentIn(0, 1), 1);
        Check.is("in 9", x.sentIn(0, 9), 9);
        Check.is("in 54", x.sentIn(0, 54), 9);
        Check.is("in 55", x.sentIn(0, 55), 10);
        Check.is("f in 45", x.sentIn(5, 45), 0);
        Check.is("f in 46", x.sentIn(5, 46), 1);
        // 6 rounds of 54, then 6 bytes of each line.
        Check.is("f in 359", x.sentIn(5, 359), 59);
        Check.is("f in 360", x.sentIn(5, 360), 60);
        Check.is("f in 500", x.sentIn(5, 500), 60);
        x.tick(54);
        Check.is("those sent so far do not count", x.sentIn(5, 500), 51);
        Check.is("nothing to send", new EchoLine().sentIn(0, 500), 0);
    }

    private static void deliveredInFrom0To500() {
        EchoLine x = Check.loaded(lines(9, 9));
        Check.is("nothing in OUT", x.deliveredIn(0, 500), 0);
        x.reply(0, 1, 60);
        Check.is("in 0", x.deliveredIn(0, 0), 0);
        Check.is("in 1", x.deliveredIn(0, 1), 1);
        Check.is("in 59", x.deliveredIn(0, 59), 59);
        Check.is("in 60", x.deliveredIn(0, 60), 60);
        Check.is("in 61", x.deliveredIn(0, 61), 60);
        Check.is("in 500", x.deliveredIn(0, 500), 60);
        Check.is("of the other line", x.deliveredIn(1, 500), 0);
        x.tick(10);
        Check.is("those delivered so far do not count", x.deliveredIn(0, 500), 50);
        x.setPaused(0, true);
        Check.is("paused", x.deliveredIn(0, 500), 0);
    }

    private static void droppedByFrom1To500() {
        EchoLine x = Check.loaded("line a cap 4 marks 0 4 share 1 echo each;line b cap 60 marks 0 60 share 1;lend a to b for 1;");
        Check.is("1 byte finds room", x.droppedBy(0, 1), 0);
        Check.is("4 bytes find room", x.droppedBy(0, 4), 0);
        Check.is("the 5th does not", x.droppedBy(0, 5), 1);
        Check.is("500", x.droppedBy(0, 500), 496);
        Check.is("echoes that are dropped at OUT do not count", x.droppedBy(0, 4), 0);
        x.type(0, 1, 4);
        Check.is("the 1st finds none", x.droppedBy(0, 1), 1);
        x.recall(0);
        Check.is("the 1st finds none yet", x.droppedBy(0, 1), 1);
        Check.is("but the 2nd does", x.droppedBy(0, 2), 1);
        Check.is("a line that sends in each tick", x.droppedBy(1, 500), 0);
        for (int ticks : new int[] {1, 2, 50}) {
            EchoLine y = Check.loaded(lines(9));
            y.breakLine(0, ticks);
            Check.is("held for the last one", y.droppedBy(0, ticks), ticks);
            Check.is("not behind it", y.droppedBy(0, ticks + 1), ticks);
            Check.is("nor in many", y.droppedBy(0, 500), ticks);
            if (ticks > 1) {
                Check.is("held for the last but one", y.droppedBy(0, ticks - 1), ticks - 1);
            }
        }
        EchoLine z = Check.loaded("line a cap 4 marks 0 4 share 1 echo each;");
        z.setPaused(0, true);
        Check.is("OUT is full, IN is not", z.droppedBy(0, 500), 0);
    }

    private static EchoLine threeFull() {
        EchoLine x = Check.loaded(lines(2, 2, 1));
        for (int line = 0; line < 3; line++) {
            x.type(line, 1, 60);
        }
        return x;
    }

    private static void sentIfLentIn100Ticks() {
        // A round of 5: 2 of b in a's turn, 2 of b, 1 of c; b has 60, so that it is empty behind 15 rounds, 75 ticks.
        // Then only c sends, 25 in 25 ticks: a sends none.
        EchoLine x = threeFull();
        Check.is("a lends to b", x.sentIfLent(0, 1), 0);
        // b lends to a: a sends 4 a round, 60 in 15 rounds; then c alone, 25.
        Check.is("b lends to a", x.sentIfLent(1, 0), 0);
        // c lends to a: 3 of a and 2 of b a round, 20 rounds are 100 ticks.
        Check.is("c lends to a", x.sentIfLent(2, 0), 0);
        // With a lend that is there: a lends to c, b lends to a; a sends 2 in b's turn, c 2 in a's and 1 in its own.
        x.lend(1, 0, 99);
        Check.is("a sends in b's turns", x.sentIfLent(0, 2), 40);
        for (int passes = 0; passes < 3; passes++) {
            EchoLine asked = threeFull();
            EchoLine lent = threeFull();
            for (int i = 0; i < passes; i++) {
                asked.pass();
                lent.pass();
            }
            asked.lend(1, 0, 9);
            lent.lend(1, 0, 9);
            lent.lend(0, 2, 99);
            Check.is("in 100 ticks", asked.sentIfLent(0, 2), lent.sentIn(0, 100));
            Check.is("in place of what it lends", asked.sentIfLent(1, 2), 0);
            Check.is("it lends as before", asked.line(1, 10), 9);
            Check.is("turns that it lends", asked.line(0, 10), 0);
        }
        // Line a of share 1 sends in each of b's turns: in the ticks 2, 4, .. 100 with b first, in 1, 3, .. 99 else.
        EchoLine even = Check.loaded(lines(1, 1) + "lend b to a for 99;");
        even.type(0, 1, 60);
        even.type(1, 1, 60);
        Check.is("50 in 100 ticks", even.sentIfLent(0, 1), 50);
        even.tick(1);
        even.lend(0, 1, 99);
        Check.is("the 100th tick counts", even.sentIn(0, 99), 50);
        Check.is("and the 101st would", even.sentIn(0, 101), 51);
        Check.is("it is asked for 100", even.sentIfLent(0, 1), 50);
    }

    private static void bestBorrowerIn100Ticks() {
        Check.is("one line alone", new EchoLine().bestBorrower(0), EchoLine.NONE);
        Check.is("one line of a text", Check.loaded(lines(9) + "type a 1;").bestBorrower(0), EchoLine.NONE);
        for (int many = 2; many <= 6; many++) {
            for (int line = 0; line < many; line++) {
                Check.is("the lowest of " + many, Check.loaded(lines(ones(many))).bestBorrower(line), line == 0 ? 1 : 0);
            }
        }
        // a lends to b: 60 of b; a lends to c: the same 60 of b in b's turns, and none of a, but c's 40: the lowest.
        EchoLine x = Check.loaded(lines(9, 1, 1));
        x.type(1, 1, 60);
        x.type(2, 1, 40);
        Check.is("all find their ticks", x.bestBorrower(0), 1);
        // b lends 99 turns to a already: if a lends to b, both send; if to c, a sends in b's turns, and b does not.
        EchoLine y = Check.loaded(lines(1, 1, 1) + "lend b to a for 99;");
        y.type(0, 1, 60);
        y.type(1, 1, 60);
        Check.is("most in all", y.bestBorrower(0), 1);
        EchoLine z = Check.loaded(lines(1, 1, 1) + "lend c to a for 99;");
        z.type(0, 1, 60);
        z.type(2, 1, 60);
        Check.is("the one that lends to it", z.bestBorrower(0), 2);
        for (int line = 0; line < 3; line++) {
            Check.is("as the ticks tell, line " + line, threeFull().bestBorrower(line), bestByTicks(line));
        }
    }

    private static int bestByTicks(int line) {
        int best = EchoLine.NONE;
        int most = -1;
        for (int other = 0; other < 3; other++) {
            EchoLine x = threeFull();
            if (other != line) {
                x.lend(line, other, 99);
                int sent = x.tick(100);
                best = sent > most ? other : best;
                most = Math.max(most, sent);
            }
        }
        return best;
    }
}
