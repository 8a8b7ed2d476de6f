import java.math.BigInteger;

/** The edges of section 1 and of promises 2 to 7: the input buffer, the numbers, names and codes of a text. */
public final class TextEdgesTest {
    private static final String A = "line a cap 4 marks 1 3 share 2;";
    private static final String AB = A + "line b cap 4 marks 1 3 share 2;";
    private static final String[] KEYWORDS = {"line", "cap", "marks", "share", "echo", "none", "each", "whole", "lend", "to",
        "for", "type"};

    public static void main(String[] args) {
        bufferHolds400Bytes();
        appendTellsBytesInTheirOrder();
        truncateFrom0ToTheLength();
        textOf400Bytes();
        emptyTexts();
        eachStatementEndsWithASemicolon();
        eachByteBehindAWord();
        eachByteBehindANumber();
        eachByteAsAName();
        numbersOfALine();
        numbersOfLendAndType();
        numbersOfVeryManyDigits();
        numbersWhereAnotherTokenMustStand();
        namesOf1To6Letters();
        keywordsAreNoNames();
        sixLinesAndA7th();
        sixtyBytesAndA61st();
        bytesAreTypedBehindTheText();
        takenNames();
        namesToldAhead();
        theSmallestCodeCounts();
        theFirstTokenWithAnErrorCounts();
        positionIsThatOfTheFirstByte();
        endOfTheTextBehindEachToken();
        errorCodeAndPositionOfTheLastLoad();
        echoesOfALine();
        find();
        Check.finish();
    }

    /** A new object with so many bytes of a text in its input buffer, which may begin with as many spaces as needed. */
    private static EchoLine with(String text) {
        EchoLine x = new EchoLine();
        Check.give(x, text);
        return x;
    }

    private static String padded(String text, int length) {
        return " ".repeat(length - text.length()) + text;
    }

    private static void bufferHolds400Bytes() {
        for (int length : new int[] {0, 1, 19, 20, 21, 360, 379, 380}) {
            EchoLine x = with(" ".repeat(length));
            Check.is("append to " + length + " bytes", x.append(0, 0, 0, 0, 0), length + 20);
        }
        for (int length : new int[] {381, 382, 390, 399, 400}) {
            EchoLine x = with(padded(A, length));
            Check.raisesState("append to " + length + " bytes", () -> x.append(0, 0, 0, 0, 0));
            Check.raisesArgument("it has not grown from " + length, () -> x.truncate(length + 1));
            x.truncate(length);
            Check.is("its bytes are those of before, " + length, x.load(), 1);
            Check.is("it is empty behind load, " + length, x.append(0, 0, 0, 0, 0), 20);
        }
    }

    private static void appendTellsBytesInTheirOrder() {
        EchoLine x = Check.loaded("line abcdef cap 4 marks 1 3 share 2;line b cap 4 marks 1 3 share 2;");
        x.append(0x61626364, 0x65660000, 0, 0, 0);
        x.truncate(6);
        Check.is("the most significant byte first", x.find(), 0);
        String text = "line a  cap    4 mar";
        for (int skipped = 0; skipped < 5; skipped++) {
            int[] fours = new int[5];
            for (int i = 0; i < 5; i++) {
                fours[i] = i == skipped ? 0xffffffff : Check.four(text, 4 * i);
            }
            EchoLine y = new EchoLine();
            y.append(fours[0], fours[1], fours[2], fours[3], fours[4]);
            y.load();
            Check.is("parameter " + skipped + " stands at its place", y.errorPosition(), 4 * skipped);
            Check.is("and is no blank", y.errorCode(), 1);
        }
        for (int high : new int[] {0x80, 0xff, 0xe9, 0x7f}) {
            EchoLine y = Check.loaded(A);
            y.append(0x61000000 | high << 16, 0, 0, 0, 0);
            y.truncate(2);
            Check.is("a byte " + high + " behind the name", y.find(), EchoLine.NONE);
            EchoLine z = new EchoLine();
            z.append(Check.four("line", 0), high << 24 | 0x206120, 0, 0, 0);
            z.load();
            Check.is("a byte " + high + " is a symbol", z.errorPosition(), 4);
        }
    }

    private static void truncateFrom0ToTheLength() {
        for (int length : new int[] {0, 1, 19, 20, 399, 400}) {
            EchoLine x = with(" ".repeat(length));
            Check.raisesArgument("truncate(length + 1) of " + length, () -> x.truncate(length + 1));
            Check.raisesArgument("truncate(-1) of " + length, () -> x.truncate(-1));
            Check.raisesArgument("truncate(greatest) of " + length, () -> x.truncate(Integer.MAX_VALUE));
            Check.raisesArgument("truncate(least) of " + length, () -> x.truncate(Integer.MIN_VALUE));
            x.truncate(length);
            Check.raisesArgument("the length is as before, " + length, () -> x.truncate(length + 1));
            if (length > 0) {
                x.truncate(length - 1);
                Check.raisesArgument("what was cut is gone, " + length, () -> x.truncate(length));
            }
            x.truncate(0);
            Check.raisesArgument("nothing is left of " + length, () -> x.truncate(1));
        }
        EchoLine x = Check.loaded(AB);
        Check.give(x, "bxyz");
        x.truncate(1);
        Check.is("the first bytes stay", x.find(), 1);
    }

    private static void textOf400Bytes() {
        Check.is("spaces ahead", with(padded(A, 400)).load(), 1);
        Check.is("spaces behind", with(A + " ".repeat(400 - A.length())).load(), 1);
        Check.is("newlines behind", with(A + "\n".repeat(400 - A.length())).load(), 1);
        String zeros = A.replace("cap 4", "cap " + "0".repeat(400 - A.length()) + "4");
        Check.is("a number that fills it", with(zeros).load(), 1);
        Check.fails(padded("x", 400), 1, 399);
        Check.fails(padded(A + ";", 400), 1, 399);
        Check.fails(padded(A.substring(0, A.length() - 1), 400), 1, 400);
        Check.fails(" ".repeat(400), 1, 400);
        Check.fails(";".repeat(400), 1, 0);
        Check.fails(padded("line a cap 4 marks 1 3 share 10", 400), 2, 398);
        Check.fails("line a cap " + "9".repeat(389), 2, 11);
        Check.fails("line " + "a".repeat(395), 1, 5);
        Check.fails("a".repeat(400), 1, 0);
    }

    private static void emptyTexts() {
        EchoLine x = new EchoLine();
        Check.is("load of a buffer that was never filled", x.load(), EchoLine.PARSE_ERROR);
        Check.is("its code", x.errorCode(), 1);
        Check.is("its position", x.errorPosition(), 0);
        Check.fails("", 1, 0);
        Check.fails(" ", 1, 1);
        Check.fails("\n", 1, 1);
        Check.fails(" \n \n ", 1, 5);
        EchoLine y = with(A);
        y.truncate(0);
        Check.is("load of a text that was cut off", y.load(), EchoLine.PARSE_ERROR);
        Check.is("position then", y.errorPosition(), 0);
        Check.is("one statement is enough", Check.load(new EchoLine(), A), 1);
    }

    private static void eachStatementEndsWithASemicolon() {
        String[] statements = {"line a cap 4 marks 1 3 share 2", "line b cap 4 marks 1 3 share 2 echo each", "lend a to b for 5",
            "type a 1 2 3", "type b 4"};
        StringBuilder text = new StringBuilder();
        for (String statement : statements) {
            text.append(statement);
            Check.fails(text.toString(), 1, text.length());
            Check.fails(text + ",", 1, text.length());
            text.append(';');
            Check.is("load of " + text, Check.load(new EchoLine(), text.toString()) > 0, true);
            Check.fails(text + ";", 1, text.length());
        }
    }

    private static boolean isLetter(int b) {
        return b >= 'a' && b <= 'z';
    }

    private static boolean isDigit(int b) {
        return b >= '0' && b <= '9';
    }

    private static boolean isBlank(int b) {
        return b == 32 || b == 10;
    }

    private static void eachByteBehindAWord() {
        for (int b = 0; b <= 255; b++) {
            String text = "line" + (char) b + "a cap 4 marks 1 3 share 2;";
            if (isBlank(b)) {
                Check.is("byte " + b + " separates", Check.load(new EchoLine(), text), 1);
            } else {
                Check.fails(text, 1, isLetter(b) ? 0 : 4);
            }
        }
    }

    private static void eachByteBehindANumber() {
        for (int b = 0; b <= 255; b++) {
            String text = "line a cap 4" + (char) b + " marks 1 3 share 2;";
            EchoLine x = new EchoLine();
            if (isBlank(b) || isDigit(b)) {
                Check.is("load with byte " + b + " behind 4", Check.load(x, text), 1);
                Check.is("capacity with byte " + b + " behind 4", x.line(0, 0), isDigit(b) ? 40 + b - '0' : 4);
            } else {
                Check.fails(text, 1, 12);
            }
        }
    }

    private static void eachByteAsAName() {
        for (int b = 0; b <= 255; b++) {
            String text = "line " + (char) b + " cap 4 marks 1 3 share 2;";
            if (isLetter(b)) {
                EchoLine x = Check.loaded(text);
                Check.give(x, "" + (char) b);
                Check.is("find of byte " + b, x.find(), 0);
            } else {
                Check.fails(text, 1, isBlank(b) ? 7 : 5);
            }
        }
    }

    /** A number N of a text, from the lowest to the highest one; line(0, what) tells it, if the text has no error. */
    private static void range(String before, String after, int low, int high, int what) {
        for (int zeros : new int[] {0, 1, 9, 40}) {
            String ahead = before + "0".repeat(zeros);
            Check.is(ahead + low, told(ahead + low + after, what), low);
            Check.is(ahead + high, told(ahead + high + after, what), high);
            if (low > 0) {
                Check.fails(ahead + (low - 1) + after, 2, before.length());
            }
            Check.fails(ahead + (high + 1) + after, 2, before.length());
        }
        for (int n = low; n <= high; n++) {
            Check.is(before + n, told(before + n + after, what), n);
        }
        if (low > 0) {
            Check.fails(before + 0 + after, 2, before.length());
        }
        for (int bits : new int[] {8, 10, 16, 31, 32, 63, 64, 128}) {
            for (int n : new int[] {0, low, high}) {
                String wrapped = BigInteger.ONE.shiftLeft(bits).add(BigInteger.valueOf(n)).toString();
                Check.fails(before + wrapped + after, 2, before.length());
            }
        }
        for (int n : new int[] {999, 1000, 1001, Integer.MAX_VALUE}) {
            Check.fails(before + n + after, 2, before.length());
        }
        Check.fails(before + "-1" + after, 1, before.length());
        Check.fails(before + "+" + low + after, 1, before.length());
        Check.fails(before + "x" + after, 1, before.length());
        Check.fails(before + ",", 1, before.length());
        Check.fails(before, 1, before.length());
    }

    private static int told(String text, int what) {
        EchoLine x = new EchoLine();
        Check.is("load of " + text, Check.load(x, text) > 0, true);
        return what < 0 ? x.queued(0, false, -what - 1) : x.line(0, what);
    }

    private static void numbersOfALine() {
        range("line a cap ", " marks 0 1 share 1;", 4, 60, 0);
        for (int cap : new int[] {4, 5, 59, 60}) {
            range("line a cap " + cap + " marks ", " " + cap + " share 1;", 0, cap - 1, 1);
            for (int low : new int[] {0, 1, cap - 2, cap - 1}) {
                range("line a cap " + cap + " marks " + low + " ", " share 1;", low + 1, cap, 2);
            }
        }
        range("line a cap 4 marks 1 3 share ", ";", 1, 9, 3);
        range("line a cap 4 marks 1 3 share ", " echo each;", 1, 9, 3);
    }

    private static void numbersOfLendAndType() {
        range(AB + "lend a to b for ", ";", 1, 99, 10);
        range(A + "type a ", ";", 1, 127, -1);
        range(A + "type a 7 ", ";", 1, 127, -2);
        range(A + "type a 7 8 ", " 9;", 1, 127, -3);
        range(A + "type a 7;type a ", ";", 1, 127, -2);
    }

    private static void numbersOfVeryManyDigits() {
        for (int digits : new int[] {10, 11, 19, 20, 21, 38, 39, 77, 100, 300}) {
            Check.fails("line a cap 4" + "0".repeat(digits - 1) + " marks", 2, 11);
            Check.fails("line a cap " + "9".repeat(digits) + " marks", 2, 11);
            Check.fails(A + "type a 1" + "0".repeat(digits - 1), 2, 38);
            Check.fails("line a cap " + "0".repeat(digits) + ";", 2, 11);
            Check.is("zeros ahead", told("line a cap " + "0".repeat(digits) + "60 marks 0 1 share 1;", 0), 60);
            Check.fails("line a cap " + "0".repeat(digits) + "61 marks 0 1 share 1;", 2, 11);
        }
    }

    /** A number is 1 where none may stand, however great it is. */
    private static void numbersWhereAnotherTokenMustStand() {
        for (String number : new String[] {"0", "1", "4", "99999999999999999999"}) {
            Check.fails(number, 1, 0);
            Check.fails("line " + number, 1, 5);
            Check.fails("line a " + number, 1, 7);
            Check.fails("line a cap 4 " + number, 1, 13);
            Check.fails("line a cap 4 marks 1 3 " + number, 1, 23);
            Check.fails("line a cap 4 marks 1 3 share 2 " + number, 1, 31);
            Check.fails("line a cap 4 marks 1 3 share 2 echo " + number, 1, 36);
            Check.fails(A + number, 1, 31);
            Check.fails(AB + "lend " + number, 1, 67);
            Check.fails(AB + "lend a " + number, 1, 69);
            Check.fails(AB + "lend a to " + number, 1, 72);
            Check.fails(AB + "lend a to b " + number, 1, 74);
            Check.fails(AB + "lend a to b for 9 " + number, 1, 80);
            Check.fails(A + "type " + number, 1, 36);
        }
    }

    private static void namesOf1To6Letters() {
        for (int letters = 1; letters <= 12; letters++) {
            String name = "zyxwvutsrqpo".substring(0, letters);
            String line = "line " + name + " cap 4 marks 1 3 share 2;";
            if (letters <= 6) {
                EchoLine x = Check.loaded(line + A + "lend " + name + " to a for 1;lend a to " + name + " for 2;type " + name + " 1;");
                Check.give(x, name);
                Check.is("a name of " + letters, x.find(), 0);
                Check.is("written", Check.output(x, x.writeQueues()), name + ":1/0 a:0/0");
            } else {
                Check.fails(line, 1, 5);
                Check.fails(A + line, 1, 36);
                Check.fails(A + "lend " + name, 1, 36);
                Check.fails(A + "lend a to " + name, 1, 41);
                Check.fails(A + "type " + name, 1, 36);
            }
        }
        Check.fails("line zyxwvu cap 4 marks 1 3 share 2;type zyxwvut 1;", 1, 41);
    }

    private static void keywordsAreNoNames() {
        for (String keyword : KEYWORDS) {
            Check.fails("line " + keyword + " cap 4", 1, 5);
            Check.fails(A + "line " + keyword + " cap 4", 1, 36);
            Check.fails(A + "lend " + keyword, 1, 36);
            Check.fails(A + "lend a to " + keyword, 1, 41);
            Check.fails(A + "type " + keyword, 1, 36);
            String shorter = keyword.substring(0, keyword.length() - 1);
            Check.is("a name is " + shorter, Check.load(new EchoLine(), "line " + shorter + " cap 4 marks 1 3 share 2;"), 1);
            String longer = keyword + "z";
            Check.is("a name is " + longer, Check.load(new EchoLine(), "line " + longer + " cap 4 marks 1 3 share 2;"), 1);
        }
    }

    private static String lines(int many) {
        StringBuilder text = new StringBuilder();
        for (int i = 0; i < many; i++) {
            text.append("line ").append((char) ('a' + i)).append(" cap 4 marks 1 3 share ").append(i + 1).append(';');
        }
        return text.toString();
    }

    private static void sixLinesAndA7th() {
        for (int many = 1; many <= 6; many++) {
            EchoLine x = new EchoLine();
            Check.is(many + " lines", Check.load(x, lines(many)), many);
            Check.is(many + " lines are told", x.property(0), many);
            for (int i = 0; i < many; i++) {
                Check.is("lines are numbered from 0", x.line(i, 3), i + 1);
            }
            int behind = many;
            Check.raisesIndex("line " + many + " of " + many, () -> x.line(behind, 3));
        }
        String six = lines(6);
        int end = six.length();
        Check.fails(lines(7), 5, end);
        Check.fails(six + "line", 5, end);
        Check.fails(six + "line a cap 4 marks 1 3 share 2;", 5, end);
        Check.fails(six + "line line", 5, end);
        Check.fails(six + " \n line g", 5, end + 3);
        Check.fails(six + "lend a to f for 1;line g cap 4", 5, end + 18);
        Check.fails(six + "type f 1 2;line g cap 4", 5, end + 11);
        // Where no statement may begin, the word is 1 also the 7th time.
        Check.fails(six + "type f 1 line", 1, end + 9);
        Check.fails(six + "lend line", 1, end + 5);
        Check.fails(six + "linea", 1, end);
        Check.is("six lines may lend and type", Check.load(new EchoLine(), six + "lend a to f for 1;type f 1;lend f to a for 2;"), 6);
    }

    private static void sixtyBytesAndA61st() {
        String wide = "line a cap 60 marks 0 60 share 2;line b cap 60 marks 0 60 share 2;";
        int end = wide.length();
        String ones = " 1".repeat(59);
        EchoLine x = Check.loaded(wide + "type a" + ones + " 2;");
        Check.is("60 bytes of one statement", x.line(0, 5), 60);
        Check.is("the last of them", x.queued(0, false, 59), 2);
        EchoLine y = Check.loaded(wide + "type a" + ones + ";type b 3;");
        Check.is("59 bytes", y.line(0, 5), 59);
        Check.is("and one of another line", y.queued(1, false, 0), 3);
        Check.fails(wide + "type a" + ones + " 2 3;", 5, end + 6 + 120 + 1);
        Check.fails(wide + "type a" + ones + " 2 3", 5, end + 6 + 120 + 1);
        Check.fails(wide + "type a" + ones + " 2;type b 3;", 5, end + 6 + 120 + 8);
        Check.fails(wide + "type a" + ones + ";type b 3 4;", 5, end + 6 + 118 + 10);
        Check.fails(wide + "type a" + ones + ";type b 3;type a 127;", 5, end + 6 + 118 + 17);
        // Bytes that will find no room count as well.
        Check.is("60 bytes on a line of 4", Check.load(new EchoLine(), A + "type a" + ones + " 2;"), 1);
        Check.fails(A + "type a" + ones + " 2 3;", 5, A.length() + 6 + 120 + 1);
        Check.is("a text without bytes behind one of 60", Check.load(x, wide + "type b" + ones + " 9;"), 2);
        Check.is("they begin again with each text", x.line(1, 5), 60);
    }

    private static void bytesAreTypedBehindTheText() {
        EchoLine x = Check.loaded("line a cap 4 marks 1 3 share 2 echo each;type a 1 2;line b cap 4 marks 1 3 share 2;type b 3;"
            + "type a 4 5 6;");
        int[] due = {1, 2, 4, 5};
        for (int i = 0; i < due.length; i++) {
            Check.is("in their order " + i, x.queued(0, false, i), due[i]);
            Check.is("echoed in their order " + i, x.queued(0, true, i), due[i]);
        }
        Check.is("the 5th byte is dropped", x.count(0, 2), 1);
        Check.is("it is typed", x.count(0, 0), 5);
        Check.is("it is not echoed", x.count(0, 4), 4);
        Check.is("a stop of the text", x.count(0, 8), 1);
        Check.is("the time is 0 then", x.property(1), 0);
        x.tick(1);
        Check.is("its wait is told from the time 0", x.logged(0, 4), 1);
    }

    private static void takenNames() {
        String six = lines(5) + "line abcdef cap 4 marks 1 3 share 2;";
        Check.is("six names", Check.load(new EchoLine(), six), 6);
        for (int taken = 0; taken < 5; taken++) {
            Check.fails(lines(5) + "line " + (char) ('a' + taken) + " cap 4", 3, lines(5).length() + 5);
        }
        Check.fails("line abcdef cap 4 marks 1 3 share 2;line abcdef cap", 3, 41);
        Check.is("its first letters", Check.load(new EchoLine(), "line abcdef cap 4 marks 1 3 share 2;"
            + "line abcde cap 4 marks 1 3 share 2;line bcdef cap 4 marks 1 3 share 2;"), 3);
        // The line that is told just now is there from its name on, but no other one may bear it.
        Check.fails(A + "lend a", 1, 37);
        Check.fails(A + "lend a to a for 1;", 3, 41);
        Check.fails(AB + "lend a to b for 1;lend a to b for 1;", 3, 85);
        Check.fails(AB + "lend a to b for 1;lend a to a for 1;", 3, 85);
        Check.fails(AB + "lend a to b for 99;type a 1;lend a", 3, 95);
        Check.fails(AB + "lend a to b for 1;lend b to b", 3, 90);
        Check.is("each lends once", Check.load(new EchoLine(), AB + "lend a to b for 1;lend b to a for 1;"), 2);
    }

    private static void namesToldAhead() {
        Check.fails(A + "lend b to a for 1;line b cap 4 marks 1 3 share 2;", 4, 36);
        Check.fails(A + "lend a to b for 1;line b cap 4 marks 1 3 share 2;", 4, 41);
        Check.fails(A + "type b 1;line b cap 4 marks 1 3 share 2;", 4, 36);
        Check.fails(A + "type aa 1;", 4, 36);
        Check.fails(A + "lend aa to a for 1;", 4, 36);
        Check.fails("line aa cap 4 marks 1 3 share 2;type a 1;", 4, 37);
        Check.fails(AB + "lend c to c", 4, 67);
        Check.is("the line right ahead", Check.load(new EchoLine(), A + "type a 1;line b cap 4 marks 1 3 share 2;lend b to a for 1;"), 2);
        // The names of the text before are not told ahead.
        EchoLine x = Check.loaded(AB);
        Check.is("a name of the text before", Check.load(x, A + "type b 1;"), EchoLine.PARSE_ERROR);
        Check.is("its code", x.errorCode(), 4);
        Check.is("and one of a text that failed", Check.load(x, "line z cap 4 marks 1 3 share 2;type b 1;"), EchoLine.PARSE_ERROR);
        Check.is("another", Check.load(x, A + "type z 1;"), EchoLine.PARSE_ERROR);
        Check.is("its code then", x.errorCode(), 4);
        Check.is("its position then", x.errorPosition(), 36);
        Check.is("the names of before can be used for new lines", Check.load(x, AB), 2);
    }

    private static void theSmallestCodeCounts() {
        String sixty = A + "type a" + " 1".repeat(60);
        int end = sixty.length() + 1;
        // 1 of another word, 2 of the range, 5 of a 61st byte
        Check.fails(sixty + " 0;", 2, end);
        Check.fails(sixty + " 128;", 2, end);
        Check.fails(sixty + " 99999999999999999999;", 2, end);
        Check.fails(sixty + " 127;", 5, end);
        Check.fails(sixty + " x;", 1, end);
        Check.fails(sixty + ";type a 0;", 2, end + 7);
        Check.fails(sixty + ";type a 128;", 2, end + 7);
        Check.fails(sixty + ";type b 128;", 4, end + 5);
        // 1 of a word that is no NAME, 3 and 4 of one that is
        Check.fails(A + "line abcdefg", 1, 36);
        Check.fails(AB + "lend a to b for 1;lend abcdefg", 1, 85);
        Check.fails(A + "lend a to abcdefg", 1, 41);
        Check.fails(A + "lend a to to", 1, 41);
        Check.fails(A + "lend a to type", 1, 41);
        // 1 of the word line where no statement may begin, 5 of the 7th one
        Check.fails(lines(6) + "type line", 1, lines(6).length() + 5);
    }

    private static void theFirstTokenWithAnErrorCounts() {
        Check.fails("line a cap 3 marks 9 1 share 0;", 2, 11);
        Check.fails("line line cap 3", 1, 5);
        Check.fails(A + "line a cap 99", 3, 36);
        Check.fails(A + "type b 0;", 4, 36);
        Check.fails(A + "type a 0;;", 2, 38);
        Check.fails(AB + "lend c to a for 0;", 4, 67);
        Check.fails(AB + "lend a to a for 0;", 3, 72);
        Check.fails(lines(6) + "line abcdefg cap 0;", 5, lines(6).length());
    }

    private static void positionIsThatOfTheFirstByte() {
        Check.fails("  \n line a cap 61 marks", 2, 15);
        Check.fails("line a cap\n\n\n  00061 marks", 2, 15);
        Check.fails("line a cap 4 marks 1 3 share 2 ; type   unknow 1;", 4, 40);
        Check.fails("line    abcdefgh", 1, 8);
        Check.fails("linea a", 1, 0);
        Check.fails("line a cap 4marks 1 3share 2echo eachx", 1, 33);
        Check.fails("line a cap 4marks1 3share2;type a128", 2, 33);
        Check.is("tokens need no blanks between them", Check.load(new EchoLine(), "line a cap4marks1 3share2;type a1 2;"), 1);
    }

    private static void endOfTheTextBehindEachToken() {
        String[] tokens = ("line a cap 4 marks 1 3 share 2 echo each ; line b cap 5 marks 0 5 share 9 ; lend a to b for 99 ; "
            + "type a 1 127 ; type b 5 ;").split(" ");
        StringBuilder text = new StringBuilder();
        for (String token : tokens) {
            text.append(text.length() == 0 ? "" : " ").append(token);
            for (String behind : new String[] {"", " ", "\n", " \n\n  "}) {
                String whole = text + behind;
                if (token.equals(";")) {
                    Check.is("load of " + whole, Check.load(new EchoLine(), whole) > 0, true);
                } else {
                    Check.fails(whole, 1, whole.length());
                }
            }
        }
    }

    private static void errorCodeAndPositionOfTheLastLoad() {
        EchoLine x = new EchoLine();
        String[] texts = {A, "", "line a cap 61", AB, A + "line a", "line", A + "type z", lines(7), A};
        int[] codes = {0, 1, 2, 0, 3, 1, 4, 5, 0};
        int[] positions = {-1, 0, 11, -1, 36, 4, 36, lines(6).length(), -1};
        Check.is("code without a load", x.errorCode(), 0);
        Check.is("position without a load", x.errorPosition(), EchoLine.NONE);
        for (int i = 0; i < texts.length; i++) {
            Check.is("load " + i, Check.load(x, texts[i]) > 0, codes[i] == 0);
            Check.is("code " + i, x.errorCode(), codes[i]);
            Check.is("position " + i, x.errorPosition(), positions[i]);
            Check.raisesArgument("the buffer is empty " + i, () -> x.truncate(1));
        }
        Check.load(x, "line a cap 61");
        Check.give(x, "a");
        x.find();
        x.undo();
        x.keep(0);
        x.restore(0);
        Check.raisesArgument("refused", () -> x.tick(0));
        Check.is("no other call changes the code", x.errorCode(), 2);
        Check.is("no other call changes the position", x.errorPosition(), 11);
    }

    private static void echoesOfALine() {
        String head = "line a cap 4 marks 1 3 share 2";
        Check.is("none without it", told(head + ";", 4), 0);
        Check.is("none", told(head + " echo none;", 4), 0);
        Check.is("each", told(head + " echo each;", 4), 1);
        Check.is("whole", told(head + " echo whole;", 4), 2);
        Check.fails(head + " echo;", 1, 35);
        Check.fails(head + " echo none none;", 1, 41);
        Check.fails(head + " echo none echo each;", 1, 41);
        Check.fails(head + " each;", 1, 31);
        // A line without an echo does not get that of the line of the same number in the text before.
        EchoLine x = Check.loaded(head + " echo whole;");
        Check.load(x, head + ";");
        Check.is("none again", x.line(0, 4), 0);
    }

    private static void find() {
        EchoLine x = Check.loaded(lines(5) + "line abcdef cap 4 marks 1 3 share 2;");
        String[] names = {"a", "e", "abcdef", "abcde", "abcdefg", "", " ", "a ", " a", "a\n", "f", "A", "abcdee", "bbcdef", "a;",
            "line a", "\u00e1", "\u0000", "a" + " ".repeat(399), "a".repeat(400)};
        int[] due = {0, 4, 5, -1, -1, -1, -1, -1, -1, -1, -1, -1, -1, -1, -1, -1, -1, -1, -1, -1};
        for (int i = 0; i < names.length; i++) {
            Check.give(x, names[i]);
            Check.is("find of [" + names[i] + "]", x.find(), due[i]);
            Check.raisesArgument("the buffer is empty then", () -> x.truncate(1));
            Check.is("nothing to find again", x.find(), EchoLine.NONE);
        }
        EchoLine y = new EchoLine();
        Check.is("the line without a name is not found", y.find(), EchoLine.NONE);
        Check.give(y, "a");
        Check.is("nor by a name", y.find(), EchoLine.NONE);
        Check.give(y, " ");
        Check.is("nor by a blank", y.find(), EchoLine.NONE);
        Check.load(y, A);
        y.undo();
        Check.give(y, "a");
        Check.is("a name that was undone", y.find(), EchoLine.NONE);
    }
}
