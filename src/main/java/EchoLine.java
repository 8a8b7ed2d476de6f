import java.util.NoSuchElementException;

/** Several serial lines that share one trunk by turns; README.md tells how to use it. */
public final class EchoLine {
    public static final int NONE = -1;
    public static final int PARSE_ERROR = -4;

    private static final int MAX_TEXT = 400;
    private static final int MAX_LINES = 6;
    private static final int MIN_CAPACITY = 4;
    private static final int MAX_CAPACITY = 60;
    private static final int MAX_WHOLE = 60;
    private static final int MAX_SHARE = 9;
    private static final int MAX_NAME = 6;
    private static final int MAX_BYTE = 127;
    private static final int MAX_MANY = 60;
    private static final int MAX_TICKS = 200;
    private static final int MAX_TURNS = 99;
    private static final int MAX_HELD = 50;
    private static final int MAX_AHEAD = 500;
    private static final int LENT_AHEAD = 100;
    private static final int MAX_LOG = 40;
    private static final int LOG_WRITTEN = 20;
    private static final int MAX_UNDO = 6;
    private static final int SLOTS = 2;
    private static final int CARRIAGE_RETURN = 13;

    private static final int ECHO_NONE = 0;
    private static final int ECHO_EACH = 1;
    private static final int ECHO_WHOLE = 2;

    private static final int TYPED = 0;
    private static final int SENT = 1;
    private static final int DROPPED = 2;
    private static final int BROKEN = 3;
    private static final int OFFERED = 4;
    private static final int DELIVERED = 5;
    private static final int OUT_DROPPED = 6;
    private static final int OUT_BROKEN = 7;
    private static final int STOPS = 8;
    private static final int BREAKS = 9;
    private static final int SENT_ELSEWHERE = 10;
    private static final int GREATEST_WAIT = 11;
    private static final int COUNTS = 12;

    private static final int LAST_PROPERTY = 10;
    private static final int LAST_OF_LINE = 10;
    private static final int LOG_SENDER = 1;
    private static final int LOG_OWNER = 2;
    private static final int LOG_NUMBERS = 5;

    private static final int MISPLACED = 1;
    private static final int OUT_OF_RANGE = 2;
    private static final int NAME_TAKEN = 3;
    private static final int NAME_UNKNOWN = 4;
    private static final int TOO_MANY = 5;

    private final Text input = new Text();
    private final Text output = new Text();
    private final Trunk now = new Trunk();
    /** Where questions of what would be are played, and texts are built, so that now stays as it is. */
    private final Trunk trial = new Trunk();
    private final Parser parser = new Parser(input, trial);
    /** States that undo() returns to, the earliest first; made when they are first needed, then used again. */
    private final Trunk[] past = new Trunk[MAX_UNDO];
    private int pastCount;
    /** Kept states; null where nothing is kept. */
    private final Trunk[] slots = new Trunk[SLOTS];
    private int parseCode;
    private int parsePosition = NONE;

    public EchoLine() {
    }

    // The input buffer and the text

    public int append(int a, int b, int c, int d, int e) throws IllegalStateException {
        if (input.size + 20 > MAX_TEXT) {
            throw new IllegalStateException("the input buffer is full");
        }
        appendFour(a);
        appendFour(b);
        appendFour(c);
        appendFour(d);
        appendFour(e);
        return input.size;
    }

    private void appendFour(int bytes) {
        input.addByte(bytes >>> 24);
        input.addByte(bytes >>> 16);
        input.addByte(bytes >>> 8);
        input.addByte(bytes);
    }

    public void truncate(int length) throws IllegalArgumentException {
        if (length < 0 || length > input.size) {
            throw new IllegalArgumentException("no such length");
        }
        input.size = length;
    }

    public int load() {
        parseCode = parser.parse();
        parsePosition = parseCode == 0 ? NONE : parser.errorStart();
        input.size = 0;
        if (parseCode != 0) {
            return PARSE_ERROR;
        }
        parser.finish();
        remember();
        now.copyFrom(trial);
        return now.lineCount;
    }

    public int errorCode() {
        return parseCode;
    }

    public int errorPosition() {
        return parsePosition;
    }

    public int find() {
        int found = input.size == 0 ? NONE : now.numberOfName(input, 0, input.size);
        input.size = 0;
        return found;
    }

    // What is

    public int property(int what) throws IllegalArgumentException {
        if (what < 0 || what > LAST_PROPERTY) {
            throw new IllegalArgumentException("no such property");
        }
        switch (what) {
            case 0: return now.lineCount;
            case 1: return now.time;
            case 2: return now.turn;
            case 3: return now.sender();
            case 4: return now.left;
            case 5: return now.sent;
            case 6: return now.idle;
            default: return setOfLines(what);
        }
    }

    private int setOfLines(int what) {
        int set = 0;
        for (int i = 0; i < now.lineCount; i++) {
            if (isInSet(now.lineAt(i), what)) {
                set |= 1 << i;
            }
        }
        return set;
    }

    private static boolean isInSet(Line line, int what) {
        switch (what) {
            case 7: return line.held > 0;
            case 8: return line.stopping;
            case 9: return line.paused;
            default: return line.turnsLent > 0;
        }
    }

    public int line(int line, int what) throws IndexOutOfBoundsException, IllegalArgumentException {
        testLine(line);
        if (what < 0 || what > LAST_OF_LINE) {
            throw new IllegalArgumentException("no such number of a line");
        }
        Line asked = now.lineAt(line);
        switch (what) {
            case 0: return asked.capacity;
            case 1: return asked.low;
            case 2: return asked.high;
            case 3: return asked.share;
            case 4: return asked.echo;
            case 5: return asked.in.size;
            case 6: return asked.out.size;
            case 7: return asked.whole.size;
            case 8: return asked.held;
            case 9: return asked.lendsTo;
            default: return asked.turnsLent;
        }
    }

    public int count(int line, int what) throws IndexOutOfBoundsException, IllegalArgumentException {
        testLine(line);
        testCount(what);
        return now.lineAt(line).counted(what);
    }

    public int queued(int line, boolean out, int index) throws IndexOutOfBoundsException {
        testLine(line);
        Line asked = now.lineAt(line);
        Queue queue = out ? asked.out : asked.in;
        if (index < 0 || index >= queue.size) {
            throw new IndexOutOfBoundsException("no such byte");
        }
        return queue.at(index);
    }

    public int delivered(int line) throws IndexOutOfBoundsException {
        testLine(line);
        return now.lineAt(line).lastDelivered;
    }

    public int logged(int index, int what) throws IndexOutOfBoundsException, IllegalArgumentException {
        if (index < 0 || index >= now.log.size) {
            throw new IndexOutOfBoundsException("no such entry");
        }
        if (what < 0 || what >= LOG_NUMBERS) {
            throw new IllegalArgumentException("no such number of an entry");
        }
        return now.log.at(index, what);
    }

    // What would be, if only ticks passed

    public int nextSender() {
        trial.copyFrom(now);
        for (int ticks = 1; ticks <= MAX_AHEAD; ticks++) {
            int sender = trial.passTick();
            if (sender != NONE) {
                return sender;
            }
        }
        return NONE;
    }

    public int sendsIn(int line) throws IndexOutOfBoundsException {
        testLine(line);
        trial.copyFrom(now);
        for (int ticks = 1; ticks <= MAX_AHEAD; ticks++) {
            if (trial.passTick() == line) {
                return ticks;
            }
        }
        return NONE;
    }

    public int emptyIn(int line) throws IndexOutOfBoundsException {
        testLine(line);
        trial.copyFrom(now);
        Queue in = trial.lineAt(line).in;
        for (int ticks = 0; ticks <= MAX_AHEAD; ticks++) {
            if (in.size == 0) {
                return ticks;
            }
            trial.passTick();
        }
        return NONE;
    }

    public int quietIn() {
        trial.copyFrom(now);
        for (int ticks = 0; ticks <= MAX_AHEAD; ticks++) {
            if (trial.isQuiet()) {
                return ticks;
            }
            trial.passTick();
        }
        return NONE;
    }

    public int sentIn(int line, int ticks) throws IndexOutOfBoundsException, IllegalArgumentException {
        testLine(line);
        testRange(ticks, 0, MAX_AHEAD);
        return countedAhead(line, SENT, ticks);
    }

    public int deliveredIn(int line, int ticks) throws IndexOutOfBoundsException, IllegalArgumentException {
        testLine(line);
        testRange(ticks, 0, MAX_AHEAD);
        return countedAhead(line, DELIVERED, ticks);
    }

    private int countedAhead(int line, int what, int ticks) {
        trial.copyFrom(now);
        trial.passTicks(ticks);
        return trial.lineAt(line).counted(what) - now.lineAt(line).counted(what);
    }

    public int room(int line) throws IndexOutOfBoundsException {
        testLine(line);
        Line asked = now.lineAt(line);
        return asked.held > 0 ? 0 : asked.capacity - asked.in.size;
    }

    public int untilStop(int line) throws IndexOutOfBoundsException {
        testLine(line);
        Line asked = now.lineAt(line);
        return asked.held > 0 || asked.stopping ? 0 : asked.high - asked.in.size;
    }

    public int droppedBy(int line, int ticks) throws IndexOutOfBoundsException, IllegalArgumentException {
        testLine(line);
        testRange(ticks, 1, MAX_AHEAD);
        trial.copyFrom(now);
        int dropped = 0;
        for (int i = 0; i < ticks; i++) {
            // Which byte it is does not count: only echoes tell bytes apart, and they are not asked for.
            if (!trial.lineAt(line).acceptTyped(1, trial.time)) {
                dropped++;
            }
            trial.passTick();
        }
        return dropped;
    }

    public int sentIfLent(int line, int other) throws IndexOutOfBoundsException, IllegalArgumentException {
        testLine(line);
        testLine(other);
        testOther(line, other);
        tryLending(line, other);
        return trial.lineAt(line).counted(SENT) - now.lineAt(line).counted(SENT);
    }

    private void tryLending(int line, int other) {
        trial.copyFrom(now);
        trial.lineAt(line).lendTo(other, MAX_TURNS);
        trial.passTicks(LENT_AHEAD);
    }

    public int bestBorrower(int line) throws IndexOutOfBoundsException {
        testLine(line);
        int best = NONE;
        int most = NONE;
        for (int other = 0; other < now.lineCount; other++) {
            if (other != line) {
                tryLending(line, other);
                if (trial.sent > most) {
                    most = trial.sent;
                    best = other;
                }
            }
        }
        return best;
    }

    // Numbers over lines and log

    public int fullest() {
        int best = 0;
        for (int i = 1; i < now.lineCount; i++) {
            if (now.lineAt(i).waiting() > now.lineAt(best).waiting()) {
                best = i;
            }
        }
        return best;
    }

    public int busiest() {
        int best = NONE;
        int most = 0;
        for (int i = 0; i < now.lineCount; i++) {
            int sent = now.lineAt(i).counted(SENT);
            if (sent > most) {
                most = sent;
                best = i;
            }
        }
        return best;
    }

    public float share(int line) throws IndexOutOfBoundsException {
        testLine(line);
        if (now.sent <= 0) {
            return 0.0f;
        }
        return (float) now.lineAt(line).counted(SENT) / (float) now.sent;
    }

    public double meanWait(int line) throws IndexOutOfBoundsException {
        testLine(line);
        Line asked = now.lineAt(line);
        int sent = asked.counted(SENT);
        if (sent <= 0) {
            return 0.0;
        }
        return (double) asked.waits / (double) sent;
    }

    public int longestRun() {
        int longest = 0;
        int run = 0;
        int sender = NONE;
        for (int i = 0; i < now.log.size; i++) {
            int next = now.log.at(i, LOG_SENDER);
            run = next == sender ? run + 1 : 1;
            sender = next;
            longest = Math.max(longest, run);
        }
        return longest;
    }

    public int gap(int line) throws IndexOutOfBoundsException {
        testLine(line);
        Line asked = now.lineAt(line);
        int gone = asked.counted(SENT) + asked.counted(DROPPED) + asked.counted(BROKEN);
        return asked.counted(TYPED) - gone - asked.in.size;
    }

    public int sum(int what) throws IllegalArgumentException {
        testCount(what);
        int sum = 0;
        for (int i = 0; i < now.lineCount; i++) {
            sum += now.lineAt(i).counted(what);
        }
        return sum;
    }

    // Changes

    public int type(int line, int value, int many) throws IndexOutOfBoundsException, IllegalArgumentException {
        testLine(line);
        testRange(value, 1, MAX_BYTE);
        testRange(many, 1, MAX_MANY);
        remember();
        int dropped = 0;
        for (int i = 0; i < many; i++) {
            if (!now.lineAt(line).acceptTyped(value, now.time)) {
                dropped++;
            }
        }
        return dropped;
    }

    public int reply(int line, int value, int many) throws IndexOutOfBoundsException, IllegalArgumentException {
        testLine(line);
        testRange(value, 1, MAX_BYTE);
        testRange(many, 1, MAX_MANY);
        remember();
        int dropped = 0;
        for (int i = 0; i < many; i++) {
            if (!now.lineAt(line).acceptOffered(value)) {
                dropped++;
            }
        }
        return dropped;
    }

    public int tick(int ticks) throws IllegalArgumentException {
        testRange(ticks, 1, MAX_TICKS);
        remember();
        int before = now.sent;
        now.passTicks(ticks);
        return now.sent - before;
    }

    public int lend(int line, int other, int turns) throws IndexOutOfBoundsException, IllegalArgumentException {
        testLine(line);
        testLine(other);
        testOther(line, other);
        testRange(turns, 1, MAX_TURNS);
        remember();
        Line lender = now.lineAt(line);
        int before = lender.lendsTo;
        lender.lendTo(other, turns);
        return before;
    }

    public int recall(int line) throws IndexOutOfBoundsException {
        testLine(line);
        remember();
        Line lender = now.lineAt(line);
        int before = lender.turnsLent;
        lender.lendNoMore();
        return before;
    }

    public int breakLine(int line, int ticks) throws IndexOutOfBoundsException, IllegalArgumentException {
        testLine(line);
        testRange(ticks, 1, MAX_HELD);
        remember();
        Line broken = now.lineAt(line);
        int bytes = broken.waiting();
        broken.breakFor(ticks);
        return bytes;
    }

    public boolean setPaused(int line, boolean paused) throws IndexOutOfBoundsException {
        testLine(line);
        remember();
        Line changed = now.lineAt(line);
        boolean before = changed.paused;
        changed.paused = paused;
        return before;
    }

    public int setEcho(int line, int echo) throws IndexOutOfBoundsException, IllegalArgumentException {
        testLine(line);
        testRange(echo, ECHO_NONE, ECHO_WHOLE);
        remember();
        Line changed = now.lineAt(line);
        int before = changed.echo;
        changed.echo = echo;
        changed.whole.clear();
        return before;
    }

    public int setMarks(int line, int low, int high) throws IndexOutOfBoundsException, IllegalArgumentException {
        testLine(line);
        Line changed = now.lineAt(line);
        testRange(low, 0, changed.capacity - 1);
        testRange(high, low + 1, changed.capacity);
        remember();
        int before = 100 * changed.low + changed.high;
        changed.low = low;
        changed.high = high;
        changed.tellStopping();
        return before;
    }

    public int setShare(int line, int share) throws IndexOutOfBoundsException, IllegalArgumentException {
        testLine(line);
        testRange(share, 1, MAX_SHARE);
        remember();
        Line changed = now.lineAt(line);
        int before = changed.share;
        changed.share = share;
        return before;
    }

    public int pass() {
        remember();
        now.passOn();
        return now.turn;
    }

    // Slots and undo

    public int keep(int slot) throws IndexOutOfBoundsException {
        testSlot(slot);
        Trunk kept = slots[slot];
        if (kept == null) {
            kept = new Trunk();
            slots[slot] = kept;
        }
        kept.copyFrom(now);
        return now.time;
    }

    public int restore(int slot) throws IndexOutOfBoundsException, IllegalStateException {
        testSlot(slot);
        Trunk kept = slots[slot];
        if (kept == null) {
            throw new IllegalStateException("nothing is kept there");
        }
        remember();
        now.copyFrom(kept);
        return now.time;
    }

    public int undo() throws IllegalStateException {
        Trunk latest = pastCount > 0 && pastCount <= past.length ? past[pastCount - 1] : null;
        if (latest == null) {
            throw new IllegalStateException("there is nothing to undo");
        }
        pastCount--;
        now.copyFrom(latest);
        return pastCount;
    }

    public int undoCount() {
        return pastCount;
    }

    /** Puts the state as it is behind those that undo() returns to. */
    private void remember() {
        if (pastCount >= past.length) {
            forgetEarliest();
        }
        if (pastCount < 0 || pastCount >= past.length) {
            return;
        }
        Trunk row = past[pastCount];
        if (row == null) {
            row = new Trunk();
            past[pastCount] = row;
        }
        row.copyFrom(now);
        pastCount++;
    }

    /** Puts the earliest row last, so that it is used again. */
    private void forgetEarliest() {
        Trunk earliest = past[0];
        for (int i = 1; i < past.length; i++) {
            past[i - 1] = past[i];
        }
        past[past.length - 1] = earliest;
        pastCount = past.length - 1;
    }

    // The output buffer

    public int writeQueues() {
        output.size = 0;
        for (int i = 0; i < now.lineCount; i++) {
            if (i > 0) {
                output.addByte(' ');
            }
            writeQueuesOf(now.lineAt(i));
        }
        return output.size;
    }

    private void writeQueuesOf(Line line) {
        output.addWord(line.name);
        output.addByte(':');
        output.addNumber(line.in.size);
        output.addByte('/');
        output.addNumber(line.out.size);
        if (line.held > 0) {
            output.addByte('h');
        }
        if (line.stopping) {
            output.addByte('s');
        }
        if (line.paused) {
            output.addByte('p');
        }
    }

    public int writeLog() {
        output.size = 0;
        for (int i = Math.min(now.log.size, LOG_WRITTEN) - 1; i >= 0; i--) {
            int sender = now.log.at(i, LOG_SENDER);
            int owner = now.log.at(i, LOG_OWNER);
            output.addNumber(sender);
            if (owner != sender) {
                output.addByte('^');
                output.addNumber(owner);
            }
        }
        return output.size;
    }

    public int writeCounts(int line) throws IndexOutOfBoundsException {
        testLine(line);
        output.size = 0;
        for (int what = TYPED; what <= OUT_BROKEN; what++) {
            if (what > TYPED) {
                output.addByte(',');
            }
            output.addNumber(now.lineAt(line).counted(what));
        }
        return output.size;
    }

    public int outputByte(int index) throws NoSuchElementException {
        if (index < 0 || index >= output.size) {
            throw new NoSuchElementException("no such byte");
        }
        return output.byteAt(index);
    }

    // Tests of arguments

    private void testLine(int line) {
        if (line < 0 || line >= now.lineCount) {
            throw new IndexOutOfBoundsException("no such line");
        }
    }

    private void testSlot(int slot) {
        if (slot < 0 || slot >= slots.length) {
            throw new IndexOutOfBoundsException("no such slot");
        }
    }

    private static void testRange(int value, int lowest, int highest) {
        if (value < lowest || value > highest) {
            throw new IllegalArgumentException("out of range");
        }
    }

    private static void testCount(int what) {
        if (what < 0 || what >= COUNTS) {
            throw new IllegalArgumentException("no such count");
        }
    }

    private static void testOther(int line, int other) {
        if (line == other) {
            throw new IllegalArgumentException("both lines are the same");
        }
    }

    /** A buffer of bytes, told as 0 to 255. */
    private static final class Text {
        final byte[] bytes = new byte[MAX_TEXT];
        int size;

        void addByte(int value) {
            if (size >= 0 && size < bytes.length) {
                bytes[size] = (byte) value;
                size++;
            }
        }

        void addWord(String word) {
            for (int i = 0; i < word.length(); i++) {
                addByte(word.charAt(i));
            }
        }

        void addNumber(int number) {
            boolean begun = false;
            for (int unit = 1000000000; unit > 0; unit /= 10) {
                int digit = number / unit % 10;
                if (begun || digit != 0 || unit == 1) {
                    addByte('0' + digit);
                    begun = true;
                }
            }
        }

        int byteAt(int index) {
            return index >= 0 && index < size && index < bytes.length ? bytes[index] & 255 : NONE;
        }

        boolean holdsWord(int start, int end, String word) {
            if (end - start != word.length()) {
                return false;
            }
            for (int i = 0; i < word.length(); i++) {
                if (byteAt(start + i) != word.charAt(i)) {
                    return false;
                }
            }
            return true;
        }

        String wordBetween(int start, int end) {
            StringBuilder word = new StringBuilder();
            for (int i = start; i < end; i++) {
                word.append((char) byteAt(i));
            }
            return word.toString();
        }
    }

    /** Numbers in a row: the first that came is the first that goes. */
    private static final class Queue {
        final int[] numbers = new int[MAX_CAPACITY];
        int size;

        int at(int index) {
            return index >= 0 && index < size && index < numbers.length ? numbers[index] : NONE;
        }

        void add(int number) {
            if (size >= 0 && size < numbers.length) {
                numbers[size] = number;
                size++;
            }
        }

        void removeFirst() {
            if (size > 0 && size <= numbers.length) {
                size--;
                System.arraycopy(numbers, 1, numbers, 0, size);
            }
        }

        void clear() {
            size = 0;
        }

        void copyFrom(Queue other) {
            if (other.size >= 0 && other.size <= other.numbers.length && other.size <= numbers.length) {
                size = other.size;
                System.arraycopy(other.numbers, 0, numbers, 0, size);
            }
        }
    }

    /** The last bytes that were sent. */
    private static final class Log {
        final int[] numbers = new int[MAX_LOG * LOG_NUMBERS];
        int size;
        /** The row for the next entry; rows are used in a ring. */
        int next;

        void add(int time, int sender, int owner, int value, int wait) {
            int start = next * LOG_NUMBERS;
            if (start < 0 || start + LOG_NUMBERS > numbers.length) {
                return;
            }
            numbers[start] = time;
            numbers[start + LOG_SENDER] = sender;
            numbers[start + LOG_OWNER] = owner;
            numbers[start + 3] = value;
            numbers[start + 4] = wait;
            next = next + 1 < MAX_LOG ? next + 1 : 0;
            size = Math.min(size + 1, MAX_LOG);
        }

        /** A number of an entry; the index 0 is that of the latest one. */
        int at(int index, int what) {
            int row = next - 1 - index;
            int place = (row < 0 ? row + MAX_LOG : row) * LOG_NUMBERS + what;
            return place >= 0 && place < numbers.length ? numbers[place] : NONE;
        }

        void clear() {
            size = 0;
            next = 0;
        }

        void copyFrom(Log other) {
            size = other.size;
            next = other.next;
            System.arraycopy(other.numbers, 0, numbers, 0, Math.min(other.numbers.length, numbers.length));
        }
    }

    /** One line with its queues and counts. */
    private static final class Line {
        String name = "";
        int capacity = 10;
        int low = 2;
        int high = 8;
        int share = 1;
        int echo = ECHO_NONE;
        final Queue in = new Queue();
        /** The times at which the bytes of IN came, in step with it. */
        final Queue arrivals = new Queue();
        final Queue out = new Queue();
        final Queue whole = new Queue();
        int held;
        int lendsTo = NONE;
        int turnsLent;
        boolean stopping;
        boolean paused;
        int lastDelivered = NONE;
        final int[] counts = new int[COUNTS];
        long waits;

        int counted(int what) {
            return what >= 0 && what < counts.length ? counts[what] : 0;
        }

        private void addToCount(int what, int more) {
            if (what >= 0 && what < counts.length) {
                counts[what] += more;
            }
        }

        int waiting() {
            return in.size + out.size;
        }

        /** Types a byte; tells whether it came to IN. */
        boolean acceptTyped(int value, int time) {
            addToCount(TYPED, 1);
            if (held > 0 || in.size >= capacity) {
                addToCount(DROPPED, 1);
                return false;
            }
            in.add(value);
            arrivals.add(time);
            tellStopping();
            echoTyped(value);
            return true;
        }

        private void echoTyped(int value) {
            if (echo == ECHO_EACH) {
                acceptOffered(value);
            } else if (echo == ECHO_WHOLE) {
                if (whole.size < MAX_WHOLE) {
                    whole.add(value);
                }
                if (value == CARRIAGE_RETURN) {
                    offerWhole();
                }
            }
        }

        private void offerWhole() {
            for (int i = 0; i < whole.size; i++) {
                acceptOffered(whole.at(i));
            }
            whole.clear();
        }

        /** Offers a byte to OUT; tells whether it came there. */
        boolean acceptOffered(int value) {
            addToCount(OFFERED, 1);
            if (held > 0 || out.size >= capacity) {
                addToCount(OUT_DROPPED, 1);
                return false;
            }
            out.add(value);
            return true;
        }

        void tellStopping() {
            if (in.size >= high) {
                if (!stopping) {
                    addToCount(STOPS, 1);
                }
                stopping = true;
            } else if (in.size <= low) {
                stopping = false;
            }
        }

        boolean canSend() {
            return held == 0 && in.size > 0;
        }

        void sendFirst(int wait, boolean elsewhere) {
            in.removeFirst();
            arrivals.removeFirst();
            addToCount(SENT, 1);
            addToCount(SENT_ELSEWHERE, elsewhere ? 1 : 0);
            addToCount(GREATEST_WAIT, Math.max(0, wait - counted(GREATEST_WAIT)));
            waits += wait;
        }

        void deliverFirst() {
            if (held == 0 && !paused && out.size > 0) {
                lastDelivered = out.at(0);
                out.removeFirst();
                addToCount(DELIVERED, 1);
            }
        }

        void breakFor(int ticks) {
            addToCount(BREAKS, 1);
            addToCount(BROKEN, in.size);
            addToCount(OUT_BROKEN, out.size);
            held = ticks;
            in.clear();
            arrivals.clear();
            out.clear();
            whole.clear();
            tellStopping();
        }

        void lendTo(int other, int turns) {
            lendsTo = other;
            turnsLent = turns;
        }

        void lendNoMore() {
            lendsTo = NONE;
            turnsLent = 0;
        }

        /** As a line of a text is ahead of the bytes that are typed on it. */
        void startOver() {
            in.clear();
            arrivals.clear();
            out.clear();
            whole.clear();
            echo = ECHO_NONE;
            held = 0;
            lendNoMore();
            stopping = false;
            paused = false;
            lastDelivered = NONE;
            for (int i = 0; i < counts.length; i++) {
                counts[i] = 0;
            }
            waits = 0;
        }

        void copyFrom(Line other) {
            name = other.name;
            capacity = other.capacity;
            low = other.low;
            high = other.high;
            share = other.share;
            echo = other.echo;
            in.copyFrom(other.in);
            arrivals.copyFrom(other.arrivals);
            out.copyFrom(other.out);
            whole.copyFrom(other.whole);
            held = other.held;
            lendTo(other.lendsTo, other.turnsLent);
            stopping = other.stopping;
            paused = other.paused;
            lastDelivered = other.lastDelivered;
            System.arraycopy(other.counts, 0, counts, 0, Math.min(other.counts.length, counts.length));
            waits = other.waits;
        }
    }

    /** All that undo() restores: the lines, the turn, the time and the log. */
    private static final class Trunk {
        final Line[] lines = new Line[MAX_LINES];
        final Log log = new Log();
        int lineCount = 1;
        int time;
        int turn;
        int left = 1;
        boolean sentInTurn;
        int sent;
        int idle;

        Trunk() {
            for (int i = 0; i < lines.length; i++) {
                lines[i] = new Line();
            }
        }

        /** A line; callers test the number first, so that the line 0 never stands in for another one. */
        Line lineAt(int number) {
            return lines[number >= 0 && number < lines.length ? number : 0];
        }

        int numberOfName(Text text, int start, int end) {
            for (int i = 0; i < lineCount; i++) {
                if (text.holdsWord(start, end, lineAt(i).name)) {
                    return i;
                }
            }
            return NONE;
        }

        int sender() {
            int borrower = lineAt(turn).lendsTo;
            return borrower == NONE ? turn : borrower;
        }

        boolean isQuiet() {
            for (int i = 0; i < lineCount; i++) {
                if (lineAt(i).waiting() > 0) {
                    return false;
                }
            }
            return true;
        }

        void passTicks(int ticks) {
            for (int i = 0; i < ticks; i++) {
                passTick();
            }
        }

        /** Lets a tick pass; tells the line that sent a byte, NONE if none did. */
        int passTick() {
            time++;
            for (int i = 0; i < lineCount; i++) {
                Line line = lineAt(i);
                line.held = Math.max(0, line.held - 1);
            }
            int sender = look();
            if (sender == NONE) {
                idle++;
            } else {
                sendFrom(sender);
            }
            for (int i = 0; i < lineCount; i++) {
                lineAt(i).deliverFirst();
            }
            return sender;
        }

        /** Passes the turn on until its sender can send; tells that sender, NONE if no one can. */
        private int look() {
            for (int looks = 0; looks < lineCount; looks++) {
                int sender = sender();
                if (lineAt(sender).canSend()) {
                    return sender;
                }
                passOn();
            }
            return NONE;
        }

        private void sendFrom(int sender) {
            Line line = lineAt(sender);
            int wait = time - line.arrivals.at(0);
            log.add(time, sender, turn, line.in.at(0), wait);
            line.sendFirst(wait, sender != turn);
            line.tellStopping();
            sent++;
            sentInTurn = true;
            left--;
            if (left <= 0) {
                passOn();
            }
        }

        void passOn() {
            Line owner = lineAt(turn);
            if (sentInTurn && owner.turnsLent > 0) {
                owner.turnsLent--;
                if (owner.turnsLent == 0) {
                    owner.lendNoMore();
                }
            }
            sentInTurn = false;
            turn = turn + 1 < lineCount ? turn + 1 : 0;
            left = lineAt(turn).share;
        }

        /** As it is ahead of a text: no line is there yet. */
        void startOver() {
            for (int i = 0; i < lines.length; i++) {
                lineAt(i).startOver();
            }
            log.clear();
            lineCount = 0;
            time = 0;
            turn = 0;
            sentInTurn = false;
            sent = 0;
            idle = 0;
        }

        void copyFrom(Trunk other) {
            // Lines beyond the count are never asked for, and a text starts them over.
            for (int i = 0; i < other.lineCount; i++) {
                lineAt(i).copyFrom(other.lineAt(i));
            }
            log.copyFrom(other.log);
            lineCount = other.lineCount;
            time = other.time;
            turn = other.turn;
            left = other.left;
            sentInTurn = other.sentInTurn;
            sent = other.sent;
            idle = other.idle;
        }
    }

    /** Cuts a text into tokens, one at a time. */
    private static final class Tokens {
        static final int END = 0;
        static final int NUMBER = 1;
        static final int SEMICOLON = 2;
        static final int OTHER_SYMBOL = 3;
        static final int NAME = 4;
        static final int LONG_WORD = 5;
        static final int LINE = 6;
        static final int CAP = 7;
        static final int MARKS = 8;
        static final int SHARE = 9;
        static final int ECHO = 10;
        static final int NONE_WORD = 11;
        static final int EACH = 12;
        static final int WHOLE = 13;
        static final int LEND = 14;
        static final int TO = 15;
        static final int FOR = 16;
        static final int TYPE = 17;
        /** Greater than every number that a text may hold, and small enough to count on. */
        static final int TOO_GREAT = 1000;

        final Text text;
        int kind;
        int start;
        int end;
        int number;

        Tokens(Text text) {
            this.text = text;
        }

        /** Goes to the first token at the offset or behind it. */
        void goTo(int offset) {
            start = offset;
            while (start < text.size && isBlank(text.byteAt(start))) {
                start++;
            }
            end = start;
            int first = text.byteAt(start);
            if (start >= text.size) {
                kind = END;
            } else if (isLetter(first)) {
                readLetters();
                kind = kindOfWord();
            } else if (isDigit(first)) {
                readNumber();
            } else {
                kind = first == ';' ? SEMICOLON : OTHER_SYMBOL;
                end++;
            }
        }

        private void readLetters() {
            while (end < text.size && isLetter(text.byteAt(end))) {
                end++;
            }
        }

        private int kindOfWord() {
            if (end - start > MAX_NAME) {
                return LONG_WORD;
            }
            if (holds("line")) {
                return LINE;
            }
            if (holds("cap")) {
                return CAP;
            }
            if (holds("marks")) {
                return MARKS;
            }
            if (holds("share")) {
                return SHARE;
            }
            if (holds("echo")) {
                return ECHO;
            }
            if (holds("none")) {
                return NONE_WORD;
            }
            if (holds("each")) {
                return EACH;
            }
            if (holds("whole")) {
                return WHOLE;
            }
            if (holds("lend")) {
                return LEND;
            }
            if (holds("to")) {
                return TO;
            }
            if (holds("for")) {
                return FOR;
            }
            return holds("type") ? TYPE : NAME;
        }

        private boolean holds(String word) {
            return text.holdsWord(start, end, word);
        }

        private void readNumber() {
            kind = NUMBER;
            number = 0;
            while (end < text.size && isDigit(text.byteAt(end))) {
                number = Math.min(TOO_GREAT, number * 10 + text.byteAt(end) - '0');
                end++;
            }
        }

        private static boolean isBlank(int value) {
            return value == ' ' || value == '\n';
        }

        private static boolean isLetter(int value) {
            return value >= 'a' && value <= 'z';
        }

        private static boolean isDigit(int value) {
            return value >= '0' && value <= '9';
        }
    }

    /** Reads a text into a trunk, token by token, and stops at the first one that has an error. */
    private static final class Parser {
        static final int MAX_TYPED = 60;

        // What may stand next
        static final int FIRST_STATEMENT = 0;
        static final int STATEMENT = 1;
        static final int STATEMENT_END = 2;
        static final int NEW_NAME = 3;
        static final int CAP_WORD = 4;
        static final int CAPACITY = 5;
        static final int MARKS_WORD = 6;
        static final int LOW_MARK = 7;
        static final int HIGH_MARK = 8;
        static final int SHARE_WORD = 9;
        static final int SHARE = 10;
        static final int ECHO_WORD = 11;
        static final int ECHO = 12;
        static final int LENDER = 13;
        static final int TO_WORD = 14;
        static final int BORROWER = 15;
        static final int FOR_WORD = 16;
        static final int TURNS = 17;
        static final int TYPING_LINE = 18;
        static final int FIRST_BYTE = 19;
        static final int NEXT_BYTE = 20;

        final Tokens tokens;
        final Trunk trunk;
        /** The bytes of the type statements, which wait for the end of the text, and their lines. */
        final Queue typedBytes = new Queue();
        final Queue typedLines = new Queue();
        int awaited;
        /** The line that the token names, NONE if it names none. */
        int named;
        int lender;
        int borrower;
        int typingLine;

        Parser(Text text, Trunk trunk) {
            tokens = new Tokens(text);
            this.trunk = trunk;
        }

        /** Tells the code of the error, 0 without one; with an error, what the trunk holds then is free. */
        int parse() {
            typedBytes.clear();
            typedLines.clear();
            trunk.startOver();
            awaited = FIRST_STATEMENT;
            tokens.goTo(0);
            for (int i = 0; i < MAX_TEXT && tokens.kind != Tokens.END; i++) {
                boolean isName = tokens.kind == Tokens.NAME;
                named = isName ? trunk.numberOfName(tokens.text, tokens.start, tokens.end) : NONE;
                int code = takeToken();
                if (code != 0) {
                    return code;
                }
                tokens.goTo(tokens.end);
            }
            return awaited == STATEMENT ? 0 : MISPLACED;
        }

        /** The offset of the token that had the error. */
        int errorStart() {
            return tokens.start;
        }

        /** What a text does behind its last token. */
        void finish() {
            trunk.left = trunk.lineAt(0).share;
            for (int i = 0; i < typedBytes.size; i++) {
                trunk.lineAt(typedLines.at(i)).acceptTyped(typedBytes.at(i), 0);
            }
        }

        private int takeToken() {
            switch (awaited) {
                case FIRST_STATEMENT: return takeKind(Tokens.LINE, NEW_NAME);
                case STATEMENT: return takeStatement();
                case STATEMENT_END: return takeStatementEnd();
                case NEW_NAME: return takeNewName();
                case CAP_WORD: return takeKind(Tokens.CAP, CAPACITY);
                case CAPACITY: return takeCapacity();
                case MARKS_WORD: return takeKind(Tokens.MARKS, LOW_MARK);
                case LOW_MARK: return takeLowMark();
                case HIGH_MARK: return takeHighMark();
                case SHARE_WORD: return takeKind(Tokens.SHARE, SHARE);
                case SHARE: return takeShare();
                case ECHO_WORD: return tokens.kind == Tokens.ECHO ? takeKind(Tokens.ECHO, ECHO) : takeStatementEnd();
                case ECHO: return takeEcho();
                case LENDER: return takeLender();
                case TO_WORD: return takeKind(Tokens.TO, BORROWER);
                case BORROWER: return takeBorrower();
                case FOR_WORD: return takeKind(Tokens.FOR, TURNS);
                case TURNS: return takeTurns();
                case TYPING_LINE: return takeTypingLine();
                case FIRST_BYTE: return takeTypedByte();
                default: return tokens.kind == Tokens.NUMBER ? takeTypedByte() : takeStatementEnd();
            }
        }

        private int takeKind(int kind, int next) {
            awaited = next;
            return tokens.kind == kind ? 0 : MISPLACED;
        }

        private int takeStatement() {
            if (tokens.kind == Tokens.LINE) {
                awaited = NEW_NAME;
                return trunk.lineCount < MAX_LINES ? 0 : TOO_MANY;
            }
            return tokens.kind == Tokens.LEND ? takeKind(Tokens.LEND, LENDER) : takeKind(Tokens.TYPE, TYPING_LINE);
        }

        private int takeStatementEnd() {
            return takeKind(Tokens.SEMICOLON, STATEMENT);
        }

        private int takeNumber(int lowest, int highest, int next) {
            awaited = next;
            if (tokens.kind != Tokens.NUMBER) {
                return MISPLACED;
            }
            return tokens.number < lowest || tokens.number > highest ? OUT_OF_RANGE : 0;
        }

        private int takeNewName() {
            awaited = CAP_WORD;
            if (tokens.kind != Tokens.NAME) {
                return MISPLACED;
            }
            if (named != NONE) {
                return NAME_TAKEN;
            }
            trunk.lineCount++;
            latestLine().name = tokens.text.wordBetween(tokens.start, tokens.end);
            return 0;
        }

        private Line latestLine() {
            return trunk.lineAt(trunk.lineCount - 1);
        }

        private int takeCapacity() {
            latestLine().capacity = tokens.number;
            return takeNumber(MIN_CAPACITY, MAX_CAPACITY, MARKS_WORD);
        }

        private int takeLowMark() {
            latestLine().low = tokens.number;
            return takeNumber(0, latestLine().capacity - 1, HIGH_MARK);
        }

        private int takeHighMark() {
            latestLine().high = tokens.number;
            return takeNumber(latestLine().low + 1, latestLine().capacity, SHARE_WORD);
        }

        private int takeShare() {
            latestLine().share = tokens.number;
            return takeNumber(1, MAX_SHARE, ECHO_WORD);
        }

        private int takeEcho() {
            awaited = STATEMENT_END;
            switch (tokens.kind) {
                case Tokens.NONE_WORD:
                    latestLine().echo = ECHO_NONE;
                    return 0;
                case Tokens.EACH:
                    latestLine().echo = ECHO_EACH;
                    return 0;
                case Tokens.WHOLE:
                    latestLine().echo = ECHO_WHOLE;
                    return 0;
                default:
                    return MISPLACED;
            }
        }

        /** Takes the name of a line told ahead; the field named is that line then. */
        private int takeKnownName(int next) {
            awaited = next;
            if (tokens.kind != Tokens.NAME) {
                return MISPLACED;
            }
            return named == NONE ? NAME_UNKNOWN : 0;
        }

        private int takeLender() {
            lender = named;
            int code = takeKnownName(TO_WORD);
            return code == 0 && trunk.lineAt(lender).lendsTo != NONE ? NAME_TAKEN : code;
        }

        private int takeBorrower() {
            borrower = named;
            int code = takeKnownName(FOR_WORD);
            return code == 0 && borrower == lender ? NAME_TAKEN : code;
        }

        private int takeTurns() {
            trunk.lineAt(lender).lendTo(borrower, tokens.number);
            return takeNumber(1, MAX_TURNS, STATEMENT_END);
        }

        private int takeTypingLine() {
            typingLine = named;
            return takeKnownName(FIRST_BYTE);
        }

        private int takeTypedByte() {
            int code = takeNumber(1, MAX_BYTE, NEXT_BYTE);
            if (code != 0) {
                return code;
            }
            if (typedBytes.size >= MAX_TYPED) {
                return TOO_MANY;
            }
            typedBytes.add(tokens.number);
            typedLines.add(typingLine);
            return 0;
        }
    }
}
