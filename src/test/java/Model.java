import java.util.ArrayList;
import java.util.List;
import java.util.NoSuchElementException;

/** EchoLine once more, told from the document without looking at how EchoLine does it: slow, plain, and with the Java library. */
public final class Model {
    static final class Typed {
        final int value;
        final int time;

        Typed(int value, int time) {
            this.value = value;
            this.time = time;
        }
    }

    static final class Entry {
        final int[] numbers;

        Entry(int time, int sender, int owner, int value, int wait) {
            numbers = new int[] {time, sender, owner, value, wait};
        }
    }

    static final class One {
        String name = "";
        int capacity = 10;
        int low = 2;
        int high = 8;
        int share = 1;
        int echo = 0;
        List<Typed> in = new ArrayList<>();
        List<Integer> out = new ArrayList<>();
        List<Integer> whole = new ArrayList<>();
        int held = 0;
        int borrower = -1;
        int turns = 0;
        boolean stopping = false;
        boolean paused = false;
        int delivered = -1;
        int typed, dropped, broken, offered, deliveredCount, outDropped, outBroken, stops, breaks, elsewhere;
        List<Integer> waits = new ArrayList<>();

        One copy() {
            One c = new One();
            c.name = name;
            c.capacity = capacity;
            c.low = low;
            c.high = high;
            c.share = share;
            c.echo = echo;
            c.in = new ArrayList<>(in);
            c.out = new ArrayList<>(out);
            c.whole = new ArrayList<>(whole);
            c.held = held;
            c.borrower = borrower;
            c.turns = turns;
            c.stopping = stopping;
            c.paused = paused;
            c.delivered = delivered;
            c.typed = typed;
            c.dropped = dropped;
            c.broken = broken;
            c.offered = offered;
            c.deliveredCount = deliveredCount;
            c.outDropped = outDropped;
            c.outBroken = outBroken;
            c.stops = stops;
            c.breaks = breaks;
            c.elsewhere = elsewhere;
            c.waits = new ArrayList<>(waits);
            return c;
        }

        int greatestWait() {
            int greatest = 0;
            for (int wait : waits) {
                greatest = Math.max(greatest, wait);
            }
            return greatest;
        }

        int count(int what) {
            return new int[] {typed, waits.size(), dropped, broken, offered, deliveredCount, outDropped, outBroken,
                stops, breaks, elsewhere, greatestWait()}[what];
        }

        void lookAtMarks() {
            if (!stopping && in.size() >= high) {
                stopping = true;
                stops++;
            }
            if (stopping && in.size() <= low) {
                stopping = false;
            }
        }

        boolean type(int value, int time) {
            typed++;
            if (held > 0 || in.size() == capacity) {
                dropped++;
                return false;
            }
            in.add(new Typed(value, time));
            lookAtMarks();
            if (echo == 1) {
                offer(value);
            }
            if (echo == 2) {
                if (whole.size() < 60) {
                    whole.add(value);
                }
                if (value == 13) {
                    for (int b : whole) {
                        offer(b);
                    }
                    whole.clear();
                }
            }
            return true;
        }

        boolean offer(int value) {
            offered++;
            if (held > 0 || out.size() == capacity) {
                outDropped++;
                return false;
            }
            out.add(value);
            return true;
        }
    }

    static final class World {
        List<One> lines = new ArrayList<>();
        int time = 0;
        int turn = 0;
        int left = 1;
        boolean sentInTurn = false;
        int idle = 0;
        List<Entry> log = new ArrayList<>();

        World copy() {
            World c = new World();
            for (One one : lines) {
                c.lines.add(one.copy());
            }
            c.time = time;
            c.turn = turn;
            c.left = left;
            c.sentInTurn = sentInTurn;
            c.idle = idle;
            c.log = new ArrayList<>(log);
            return c;
        }

        int sender() {
            return lines.get(turn).turns > 0 ? lines.get(turn).borrower : turn;
        }

        void passOn() {
            One owner = lines.get(turn);
            if (owner.turns > 0 && sentInTurn) {
                owner.turns--;
                if (owner.turns == 0) {
                    owner.borrower = -1;
                }
            }
            turn = (turn + 1) % lines.size();
            left = lines.get(turn).share;
            sentInTurn = false;
        }

        void tick() {
            time++;
            for (One one : lines) {
                if (one.held > 0) {
                    one.held--;
                }
            }
            boolean sent = false;
            for (int looks = 0; looks < lines.size() && !sent; looks++) {
                One from = lines.get(sender());
                if (from.held > 0 || from.in.isEmpty()) {
                    passOn();
                } else {
                    Typed first = from.in.remove(0);
                    from.lookAtMarks();
                    from.waits.add(time - first.time);
                    if (sender() != turn) {
                        from.elsewhere++;
                    }
                    log.add(new Entry(time, sender(), turn, first.value, time - first.time));
                    sentInTurn = true;
                    left--;
                    sent = true;
                    if (left == 0) {
                        passOn();
                    }
                }
            }
            if (!sent) {
                idle++;
            }
            for (One one : lines) {
                if (one.held == 0 && !one.paused && !one.out.isEmpty()) {
                    one.delivered = one.out.remove(0);
                    one.deliveredCount++;
                }
            }
        }
    }

    static final class Mistake extends Exception {
        private static final long serialVersionUID = 1L;
        final int code;
        final int position;

        Mistake(int code, int position) {
            this.code = code;
            this.position = position;
        }
    }

    /** The text by recursive descent over tokens that are cut ahead. */
    static final class Reader {
        private static final List<String> KEYWORDS = List.of("line", "cap", "marks", "share", "echo", "none", "each",
            "whole", "lend", "to", "for", "type");
        private final List<String> tokens = new ArrayList<>();
        private final List<Integer> starts = new ArrayList<>();
        private int at = 0;
        private final World world = new World();
        private final List<int[]> bytes = new ArrayList<>();

        Reader(String text) {
            java.util.regex.Matcher m = java.util.regex.Pattern.compile("[a-z]+|[0-9]+|[^ \n]",
                java.util.regex.Pattern.DOTALL).matcher(text);
            while (m.find()) {
                tokens.add(m.group());
                starts.add(m.start());
            }
            tokens.add("");
            starts.add(text.length());
        }

        private Mistake mistake(int code) {
            return new Mistake(code, starts.get(at));
        }

        private String peek() {
            return tokens.get(at);
        }

        private void word(String word) throws Mistake {
            if (!peek().equals(word)) {
                throw mistake(1);
            }
            at++;
        }

        private int number(int low, int high) throws Mistake {
            if (!peek().matches("[0-9]+")) {
                throw mistake(1);
            }
            java.math.BigInteger n = new java.math.BigInteger(peek());
            if (n.compareTo(java.math.BigInteger.valueOf(low)) < 0 || n.compareTo(java.math.BigInteger.valueOf(high)) > 0) {
                throw mistake(2);
            }
            at++;
            return n.intValue();
        }

        private String name() throws Mistake {
            if (!peek().matches("[a-z]{1,6}") || KEYWORDS.contains(peek())) {
                throw mistake(1);
            }
            return peek();
        }

        private int known() throws Mistake {
            String name = name();
            for (int i = 0; i < world.lines.size(); i++) {
                if (world.lines.get(i).name.equals(name)) {
                    return i;
                }
            }
            return -1;
        }

        private int line() throws Mistake {
            int number = known();
            if (number < 0) {
                throw mistake(4);
            }
            return number;
        }

        World read() throws Mistake {
            if (!peek().equals("line")) {
                throw mistake(1);
            }
            while (!peek().isEmpty()) {
                statement();
                word(";");
            }
            world.left = world.lines.get(0).share;
            for (int[] b : bytes) {
                world.lines.get(b[0]).type(b[1], 0);
            }
            return world;
        }

        private void statement() throws Mistake {
            if (peek().equals("line")) {
                newLine();
            } else if (peek().equals("lend")) {
                at++;
                int lender = line();
                if (world.lines.get(lender).turns > 0) {
                    throw mistake(3);
                }
                at++;
                word("to");
                int borrower = line();
                if (borrower == lender) {
                    throw mistake(3);
                }
                at++;
                word("for");
                world.lines.get(lender).turns = number(1, 99);
                world.lines.get(lender).borrower = borrower;
            } else {
                word("type");
                int line = line();
                at++;
                do {
                    int start = at;
                    int value = number(1, 127);
                    if (bytes.size() == 60) {
                        at = start;
                        throw mistake(5);
                    }
                    bytes.add(new int[] {line, value});
                } while (!peek().equals(";"));
            }
        }

        private void newLine() throws Mistake {
            if (world.lines.size() == 6) {
                throw mistake(5);
            }
            at++;
            One one = new One();
            if (known() >= 0) {
                throw mistake(3);
            }
            one.name = name();
            at++;
            word("cap");
            one.capacity = number(4, 60);
            word("marks");
            one.low = number(0, one.capacity - 1);
            one.high = number(one.low + 1, one.capacity);
            word("share");
            one.share = number(1, 9);
            if (peek().equals("echo")) {
                at++;
                one.echo = List.of("none", "each", "whole").indexOf(peek());
                if (one.echo < 0) {
                    throw mistake(1);
                }
                at++;
            }
            world.lines.add(one);
        }
    }

    private StringBuilder input = new StringBuilder();
    private String output = "";
    private int code = 0;
    private int position = -1;
    private World world = new World();
    private final List<World> past = new ArrayList<>();
    private final World[] kept = new World[2];

    public Model() {
        world.lines.add(new One());
    }

    private One at(int line) {
        if (line < 0 || line >= world.lines.size()) {
            throw new IndexOutOfBoundsException();
        }
        return world.lines.get(line);
    }

    private static void in(int value, int low, int high) {
        if (value < low || value > high) {
            throw new IllegalArgumentException();
        }
    }

    private void save() {
        past.add(world.copy());
        if (past.size() > 6) {
            past.remove(0);
        }
    }

    public int append(int a, int b, int c, int d, int e) {
        if (input.length() > 380) {
            throw new IllegalStateException();
        }
        for (int four : new int[] {a, b, c, d, e}) {
            for (byte one : java.nio.ByteBuffer.allocate(4).putInt(four).array()) {
                input.append((char) (one & 255));
            }
        }
        return input.length();
    }

    public void truncate(int length) {
        in(length, 0, input.length());
        input.setLength(length);
    }

    public int load() {
        String text = input.toString();
        input.setLength(0);
        try {
            World read = new Reader(text).read();
            save();
            world = read;
            code = 0;
            position = -1;
            return world.lines.size();
        } catch (Mistake m) {
            code = m.code;
            position = m.position;
            return -4;
        }
    }

    public int errorCode() {
        return code;
    }

    public int errorPosition() {
        return position;
    }

    public int find() {
        String name = input.toString();
        input.setLength(0);
        for (int i = 0; i < world.lines.size(); i++) {
            if (!name.isEmpty() && world.lines.get(i).name.equals(name)) {
                return i;
            }
        }
        return -1;
    }

    public int property(int what) {
        in(what, 0, 10);
        int[] sets = new int[4];
        for (int i = 0; i < world.lines.size(); i++) {
            One one = world.lines.get(i);
            sets[0] += one.held > 0 ? 1 << i : 0;
            sets[1] += one.stopping ? 1 << i : 0;
            sets[2] += one.paused ? 1 << i : 0;
            sets[3] += one.borrower >= 0 ? 1 << i : 0;
        }
        return new int[] {world.lines.size(), world.time, world.turn, world.sender(), world.left, world.log.size(),
            world.idle, sets[0], sets[1], sets[2], sets[3]}[what];
    }

    public int line(int line, int what) {
        One o = at(line);
        in(what, 0, 10);
        return new int[] {o.capacity, o.low, o.high, o.share, o.echo, o.in.size(), o.out.size(), o.whole.size(), o.held,
            o.borrower, o.turns}[what];
    }

    public int count(int line, int what) {
        One o = at(line);
        in(what, 0, 11);
        return o.count(what);
    }

    public int queued(int line, boolean out, int index) {
        One o = at(line);
        if (index < 0 || index >= (out ? o.out.size() : o.in.size())) {
            throw new IndexOutOfBoundsException();
        }
        return out ? o.out.get(index) : o.in.get(index).value;
    }

    public int delivered(int line) {
        return at(line).delivered;
    }

    private List<Entry> lastEntries(int many) {
        return world.log.subList(Math.max(0, world.log.size() - many), world.log.size());
    }

    public int logged(int index, int what) {
        List<Entry> last = lastEntries(40);
        if (index < 0 || index >= last.size()) {
            throw new IndexOutOfBoundsException();
        }
        in(what, 0, 4);
        return last.get(last.size() - 1 - index).numbers[what];
    }

    public int nextSender() {
        World w = world.copy();
        for (int i = 0; i < 500; i++) {
            w.tick();
            if (w.log.size() > world.log.size()) {
                return w.log.get(world.log.size()).numbers[1];
            }
        }
        return -1;
    }

    public int sendsIn(int line) {
        int before = at(line).waits.size();
        World w = world.copy();
        for (int i = 1; i <= 500; i++) {
            w.tick();
            if (w.lines.get(line).waits.size() > before) {
                return i;
            }
        }
        return -1;
    }

    public int emptyIn(int line) {
        at(line);
        World w = world.copy();
        int ticks = 0;
        while (!w.lines.get(line).in.isEmpty()) {
            if (ticks == 500) {
                return -1;
            }
            w.tick();
            ticks++;
        }
        return ticks;
    }

    public int quietIn() {
        World w = world.copy();
        for (int ticks = 0; ticks <= 500; ticks++) {
            if (w.lines.stream().allMatch(o -> o.in.isEmpty() && o.out.isEmpty())) {
                return ticks;
            }
            w.tick();
        }
        return -1;
    }

    private World after(int ticks) {
        World w = world.copy();
        for (int i = 0; i < ticks; i++) {
            w.tick();
        }
        return w;
    }

    public int sentIn(int line, int ticks) {
        One o = at(line);
        in(ticks, 0, 500);
        return after(ticks).lines.get(line).waits.size() - o.waits.size();
    }

    public int deliveredIn(int line, int ticks) {
        One o = at(line);
        in(ticks, 0, 500);
        return o.out.size() - after(ticks).lines.get(line).out.size();
    }

    public int room(int line) {
        at(line);
        One o = world.copy().lines.get(line);
        int many = 0;
        while (o.type(9, 0)) {
            many++;
        }
        return many;
    }

    public int untilStop(int line) {
        at(line);
        One o = world.copy().lines.get(line);
        int many = 0;
        while (!o.stopping && o.type(9, 0)) {
            many++;
        }
        return many;
    }

    public int droppedBy(int line, int ticks) {
        at(line);
        in(ticks, 1, 500);
        World w = world.copy();
        for (int i = 0; i < ticks; i++) {
            w.lines.get(line).type(13, w.time);
            w.tick();
        }
        return w.lines.get(line).dropped - at(line).dropped;
    }

    private World lent(int line, int other) {
        World w = world.copy();
        w.lines.get(line).borrower = other;
        w.lines.get(line).turns = 99;
        for (int i = 0; i < 100; i++) {
            w.tick();
        }
        return w;
    }

    public int sentIfLent(int line, int other) {
        at(line);
        at(other);
        if (line == other) {
            throw new IllegalArgumentException();
        }
        return lent(line, other).lines.get(line).waits.size() - at(line).waits.size();
    }

    public int bestBorrower(int line) {
        at(line);
        int best = -1;
        for (int other = world.lines.size() - 1; other >= 0; other--) {
            if (other != line && (best < 0 || lent(line, other).log.size() >= lent(line, best).log.size())) {
                best = other;
            }
        }
        return best;
    }

    public int fullest() {
        int best = 0;
        for (int i = world.lines.size() - 1; i >= 0; i--) {
            One a = at(i);
            One b = at(best);
            if (a.in.size() + a.out.size() > b.in.size() + b.out.size()
                || a.in.size() + a.out.size() == b.in.size() + b.out.size() && i < best) {
                best = i;
            }
        }
        return best;
    }

    public int busiest() {
        int best = -1;
        for (int i = world.lines.size() - 1; i >= 0; i--) {
            if (at(i).waits.size() > 0 && (best < 0 || at(i).waits.size() >= at(best).waits.size())) {
                best = i;
            }
        }
        return best;
    }

    public float share(int line) {
        One o = at(line);
        return world.log.isEmpty() ? 0.0f : (float) o.waits.size() / (float) world.log.size();
    }

    public double meanWait(int line) {
        One o = at(line);
        double sum = 0.0;
        for (int wait : o.waits) {
            sum += wait;
        }
        return o.waits.isEmpty() ? 0.0 : sum / o.waits.size();
    }

    public int longestRun() {
        List<Entry> last = lastEntries(40);
        int longest = 0;
        for (int i = 0; i < last.size(); i++) {
            int j = i;
            while (j < last.size() && last.get(j).numbers[1] == last.get(i).numbers[1]) {
                j++;
            }
            longest = Math.max(longest, j - i);
        }
        return longest;
    }

    public int gap(int line) {
        at(line);
        return 0;
    }

    public int sum(int what) {
        in(what, 0, 11);
        return world.lines.stream().mapToInt(o -> o.count(what)).sum();
    }

    public int type(int line, int value, int many) {
        One o = at(line);
        in(value, 1, 127);
        in(many, 1, 60);
        save();
        int before = o.dropped;
        for (int i = 0; i < many; i++) {
            o.type(value, world.time);
        }
        return o.dropped - before;
    }

    public int reply(int line, int value, int many) {
        One o = at(line);
        in(value, 1, 127);
        in(many, 1, 60);
        save();
        int before = o.outDropped;
        for (int i = 0; i < many; i++) {
            o.offer(value);
        }
        return o.outDropped - before;
    }

    public int tick(int ticks) {
        in(ticks, 1, 200);
        save();
        int before = world.log.size();
        for (int i = 0; i < ticks; i++) {
            world.tick();
        }
        return world.log.size() - before;
    }

    public int lend(int line, int other, int turns) {
        One o = at(line);
        at(other);
        in(turns, 1, 99);
        if (line == other) {
            throw new IllegalArgumentException();
        }
        save();
        int before = o.borrower;
        o.borrower = other;
        o.turns = turns;
        return before;
    }

    public int recall(int line) {
        One o = at(line);
        save();
        int before = o.turns;
        o.borrower = -1;
        o.turns = 0;
        return before;
    }

    public int breakLine(int line, int ticks) {
        One o = at(line);
        in(ticks, 1, 50);
        save();
        int bytes = o.in.size() + o.out.size();
        o.broken += o.in.size();
        o.outBroken += o.out.size();
        o.breaks++;
        o.held = ticks;
        o.in.clear();
        o.out.clear();
        o.whole.clear();
        o.lookAtMarks();
        return bytes;
    }

    public boolean setPaused(int line, boolean paused) {
        One o = at(line);
        save();
        boolean before = o.paused;
        o.paused = paused;
        return before;
    }

    public int setEcho(int line, int echo) {
        One o = at(line);
        in(echo, 0, 2);
        save();
        int before = o.echo;
        o.echo = echo;
        o.whole.clear();
        return before;
    }

    public int setMarks(int line, int low, int high) {
        One o = at(line);
        in(low, 0, o.capacity - 1);
        in(high, low + 1, o.capacity);
        save();
        int before = 100 * o.low + o.high;
        o.low = low;
        o.high = high;
        o.lookAtMarks();
        return before;
    }

    public int setShare(int line, int share) {
        One o = at(line);
        in(share, 1, 9);
        save();
        int before = o.share;
        o.share = share;
        return before;
    }

    public int pass() {
        save();
        world.passOn();
        return world.turn;
    }

    public int keep(int slot) {
        if (slot < 0 || slot > 1) {
            throw new IndexOutOfBoundsException();
        }
        kept[slot] = world.copy();
        return world.time;
    }

    public int restore(int slot) {
        if (slot < 0 || slot > 1) {
            throw new IndexOutOfBoundsException();
        }
        if (kept[slot] == null) {
            throw new IllegalStateException();
        }
        save();
        world = kept[slot].copy();
        return world.time;
    }

    public int undo() {
        if (past.isEmpty()) {
            throw new IllegalStateException();
        }
        world = past.remove(past.size() - 1);
        return past.size();
    }

    public int undoCount() {
        return past.size();
    }

    public int writeQueues() {
        List<String> parts = new ArrayList<>();
        for (One o : world.lines) {
            parts.add(o.name + ":" + o.in.size() + "/" + o.out.size() + (o.held > 0 ? "h" : "") + (o.stopping ? "s" : "")
                + (o.paused ? "p" : ""));
        }
        output = String.join(" ", parts);
        return output.length();
    }

    public int writeLog() {
        output = "";
        for (Entry e : lastEntries(20)) {
            output += e.numbers[1] + (e.numbers[1] == e.numbers[2] ? "" : "^" + e.numbers[2]);
        }
        return output.length();
    }

    public int writeCounts(int line) {
        One o = at(line);
        output = "" + o.count(0);
        for (int what = 1; what <= 7; what++) {
            output += "," + o.count(what);
        }
        return output.length();
    }

    public int outputByte(int index) {
        if (index < 0 || index >= output.length()) {
            throw new NoSuchElementException();
        }
        return output.charAt(index);
    }
}
