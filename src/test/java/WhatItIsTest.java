/** "What it is": an object answers as it should for 512 calls after it has been made, the last one too. */
public final class WhatItIsTest {
    private static final String USED = "What it is: \"at most 512 calls\": ";

    public static void main(String[] args) {
        Check.test(USED + "the 512th, by each method", WhatItIsTest::theLastCall);
        Check.test(USED + "the 512th tells what the 511th did", WhatItIsTest::theLastButOne);
        Check.test(USED + "512 bytes and readings", WhatItIsTest::bytesAndReadings);
        Check.test(USED + "512 refused calls leave no trace", WhatItIsTest::refusedCalls);
        Check.test(USED + "as many new texts as there is room for", WhatItIsTest::newTexts);
        Check.test(USED + "barring and finding by turns", WhatItIsTest::barringAndFinding);
        Check.test(USED + "an object knows nothing of another", WhatItIsTest::twoObjects);
        Check.end();
    }

    /** Seven calls: the text a+a=b is typed, read, and its four answers are kept. */
    private static void round(LetterSums x) {
        Check.due("read()", Check.read(x, "a+a=b"), 3);
        Check.due("run(1000)", x.run(1000), 4);
    }

    /** An object with 511 calls behind it. */
    private static LetterSums worn() {
        LetterSums x = new LetterSums(10);
        for (int calls = 0; calls < 511; calls += 7) {
            round(x);
        }
        return x;
    }

    private static void theLastCall() {
        Check.due("unit(97)", worn().unit(97), true);
        Check.due("read()", worn().read(), -1);
        Check.due("letters()", worn().letters(), 2);
        Check.due("letter(1)", worn().letter(1), 'b');
        Check.due("run(2)", worn().run(2), 2);
        Check.due("digit(3, b)", worn().digit(3, 'b'), 8);
        Check.due("side(3, 1)", worn().side(3, 1), 8);
        Check.due("carry(3, 0)", worn().carry(3, 0), 0);
        Check.due("text(3, 4)", worn().text(3, 4), '8');
        Check.due("one()", worn().one(), false);
        Check.due("fixed()", worn().fixed(), 0);
        worn().bar(false);
    }

    private static void theLastButOne() {
        LetterSums x = new LetterSums(10);
        for (int calls = 0; calls < 504; calls += 7) {
            round(x);
        }
        Check.due("504 and 5", Check.read(x, "a=5"), 2);
        x.bar(false);
        Check.due("run(9), call 510", x.run(9), 1);
        x.bar(true);
        Check.due("digit(0, a), call 512", x.digit(0, 'a'), -1);
    }

    private static void bytesAndReadings() {
        LetterSums x = new LetterSums(10);
        for (int i = 0; i < 512; i++) {
            Check.due("unit(97), call " + (i + 1), x.unit(97), i < 80);
        }
        LetterSums y = new LetterSums(10);
        for (int i = 0; i < 512; i++) {
            Check.due("read(), call " + (i + 1), y.read(), -1);
        }
        LetterSums z = new LetterSums(10);
        for (int i = 0; i < 512; i += 4) {
            Check.due("read(), call " + (i + 4), Check.read(z, "a=1"), 2);
        }
    }

    private static void refusedCalls() {
        LetterSums x = Check.found(10, "a=5", 9, 1);
        for (int calls = 5; calls + 8 <= 511; calls += 8) {
            Check.due("unit(256)", x.unit(256), false);
            Check.due("read()", x.read(), -1);
            Check.due("letter(1)", x.letter(1), -1);
            Check.due("run(1001)", x.run(1001), -1);
            Check.due("digit(1, a)", x.digit(1, 'a'), -1);
            Check.due("side(0, 2)", x.side(0, 2), -1);
            Check.due("carry(0, 9)", x.carry(0, 9), -1);
            Check.due("text(0, 3)", x.text(0, 3), -1);
        }
        Check.due("digit(0, a)", x.digit(0, 'a'), 5);
    }

    private static void newTexts() {
        String letters = "abcdefghijklmnopqrstuvwxyz";
        LetterSums x = new LetterSums(10);
        for (int i = 0; i + 1 < 512 / 6; i++) {
            char letter = letters.charAt(i % 26);
            char digit = (char) ('0' + i % 10);
            Check.due("read()", Check.read(x, letter + "=" + digit), 2);
            Check.due("run(9)", x.run(9), 1);
            Check.due("digit(0, " + letter + ")", x.digit(0, letter), i % 10);
        }
    }

    private static void barringAndFinding() {
        LetterSums x = Check.with(10, "send+more=money");
        boolean on = false;
        for (int calls = 16; calls + 2 <= 512; calls += 2) {
            x.bar(on);
            Check.due("run(1000), barred " + on, x.run(1000), on ? 1 : 25);
            on = !on;
        }
    }

    private static void twoObjects() {
        LetterSums x = Check.found(10, "a=5", 9, 1);
        LetterSums y = Check.found(8, "b=6", 9, 1);
        y.bar(false);
        Check.type(y, "q=");
        Check.due("digit(0, a)", x.digit(0, 'a'), 5);
        Check.due("letter(0)", x.letter(0), 'a');
        Check.due("read()", x.read(), -1);
        Check.due("read() of the other", Check.read(y, "7"), 2);
        Check.due("digit(0, b)", x.digit(0, 'b'), -1);
        Check.type(x, "c=");
        Check.type(y, "d=");
        Check.due("read()", Check.read(x, "1"), 2);
        Check.due("letter(0)", x.letter(0), 'c');
        Check.due("read() of the other", Check.read(y, "2"), 2);
        Check.due("letter(0) of the other", y.letter(0), 'd');
    }
}
