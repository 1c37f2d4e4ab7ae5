/** Promise 4: zeros at the front barred or not; what was found is gone. */
public final class Promise04BarTest {
    public static void main(String[] args) {
        Check.test("Promise 4: AN ANSWER, \"BARRED (as at first)\"", Promise04BarTest::barredAtFirst);
        Check.test("Promise 4: \"Zeros at the front are barred, or not\"", Promise04BarTest::barredOrNot);
        Check.test("Promise 4: AN ANSWER, \"no word .. begins with 0 (a letter ..)\"",
                Promise04BarTest::lettersInFront);
        Check.test("Promise 4: AN ANSWER, \"no word .. begins with 0 (.. or a digit)\"",
                Promise04BarTest::digitsInFront);
        Check.test("Promise 4: AN ANSWER, \"of two signs or more\": one sign may be 0", Promise04BarTest::oneSign);
        Check.test("Promise 4: a zero that is not at the front is never barred", Promise04BarTest::zerosInside);
        Check.test("Promise 4: \"What was found is gone\"", Promise04BarTest::foundIsGone);
        Check.test("Promise 4: \"What was found is gone\", also when nothing changes",
                Promise04BarTest::foundIsGoneUnchanged);
        Check.test("Promise 4: the text stays", Promise04BarTest::textStays);
        Check.test("Promise 4: the barring stays over read() and a refused text", Promise04BarTest::staysOverReading);
        Check.test("Promise 4: the barring is set without a text too", Promise04BarTest::withoutText);
        Check.end();
    }

    private static void counts(int base, String text, int barred, int free) {
        LetterSums x = Check.with(base, text);
        Check.due(text + " at first", x.run(1000), barred);
        x.bar(false);
        Check.due(text + " not barred", x.run(1000), free);
        x.bar(true);
        Check.due(text + " barred", x.run(1000), barred);
        x.bar(false);
        Check.due(text + " not barred again", x.run(1000), free);
    }

    private static void barredAtFirst() {
        Check.found(10, "ab=ab", 1000, 81);
        Check.found(10, "01=a", 1000, 0);
        Check.due("one(), barred at first", Check.with(2, "ab=ab").one(), true);
    }

    private static void barredOrNot() {
        counts(10, "send+more=money", 1, 25);
        counts(10, "ab=ab", 81, 90);
        counts(2, "ab=ab", 1, 2);
        LetterSums x = Check.with(10, "ab=a1");
        x.bar(false);
        Check.due("run(1), not barred", x.run(1), 1);
        Check.due("written, not barred", Check.written(x, 0), "01=01");
        x.bar(true);
        Check.due("run(1), barred", x.run(1), 1);
        Check.due("written, barred", Check.written(x, 0), "21=21");
    }

    private static void lettersInFront() {
        counts(10, "a0=a0", 9, 10);
        counts(10, "a0=b0", 0, 0);
        // In every place that a word can have.
        counts(10, "b0+a=a", 0, 9);
        counts(10, "a+b0=a", 0, 9);
        counts(10, "a-b0=a", 0, 9);
        counts(10, "a=b0+a", 0, 9);
        counts(10, "a=a+b0", 0, 9);
        counts(10, "a=a-b0", 0, 9);
        counts(10, "a+a+a+a=a+a+a+aaaaaaaa", 0, 1);
    }

    private static void digitsInFront() {
        counts(10, "01=a", 0, 1);
        counts(10, "a=01", 0, 1);
        counts(10, "a+00=1", 0, 1);
        counts(10, "a-00=1", 0, 1);
        counts(10, "1=a-00", 0, 1);
        counts(10, "01=1", 0, 1);
        counts(10, "0a=a", 0, 10);
        counts(10, "1+1+1+1=1+1+1+00000001", 0, 1);
        counts(2, "00=0", 0, 1);
    }

    private static void oneSign() {
        counts(10, "a=0", 1, 1);
        counts(10, "0=0", 1, 1);
        counts(10, "0-a=0", 1, 1);
        counts(10, "a+0=b+1", 9, 9);
        // The same letter alone and in front: the longer word bars it.
        counts(10, "a+ab=ab", 0, 9);
        counts(10, "a+ba=ba", 9, 9);
    }

    private static void zerosInside() {
        counts(10, "10=10", 1, 1);
        counts(10, "1a0=100", 1, 1);
        counts(10, "1a=10", 1, 1);
        counts(10, "100000a0=10000000", 1, 1);
    }

    private static void foundIsGone() {
        LetterSums x = Check.found(10, "a+1=2", 9, 1);
        boolean on = false;
        for (int time = 0; time < 4; time++) {
            x.bar(on);
            Check.nothingKept(x);
            Check.due("run(9)", x.run(9), 1);
            Check.due("fixed()", x.fixed(), 1);
            on = !on;
        }
    }

    private static void foundIsGoneUnchanged() {
        LetterSums x = Check.found(10, "a+1=2", 9, 1);
        x.bar(true);
        Check.nothingKept(x);
        x.bar(false);
        Check.due("run(9)", x.run(9), 1);
        x.bar(false);
        Check.nothingKept(x);
    }

    private static void textStays() {
        LetterSums x = Check.found(10, "a+1=2", 9, 1);
        Check.type(x, "b=");
        x.bar(false);
        Check.due("letters()", x.letters(), 1);
        Check.due("letter(0)", x.letter(0), 'a');
        Check.due("one()", x.one(), true);
        Check.due("run(9)", x.run(9), 1);
        // What was typed is still there too.
        Check.due("read()", Check.read(x, "3"), 2);
        Check.due("letter(0)", x.letter(0), 'b');
    }

    private static void staysOverReading() {
        LetterSums x = new LetterSums(10);
        x.bar(false);
        Check.due("read()", Check.read(x, "01=a"), 2);
        Check.due("run(9)", x.run(9), 1);
        Check.due("read(), refused", Check.read(x, "0"), -2);
        Check.due("run(9)", x.run(9), 1);
        Check.due("read()", Check.read(x, "02=a"), 2);
        Check.due("run(9)", x.run(9), 1);
        Check.due("digit(0, a)", x.digit(0, 'a'), 2);
        x.bar(true);
        Check.due("run(9)", x.run(9), 0);
        Check.due("read()", Check.read(x, "03=a"), 2);
        Check.due("run(9)", x.run(9), 0);
    }

    private static void withoutText() {
        LetterSums x = new LetterSums(10);
        x.bar(false);
        Check.due("run(9)", x.run(9), 0);
        Check.due("one()", x.one(), false);
        Check.nothingKept(x);
        x.bar(true);
        Check.due("run(9)", x.run(9), 0);
        x.bar(false);
        Check.due("read()", Check.read(x, "0a=5"), 2);
        Check.due("run(9)", x.run(9), 1);
    }
}
