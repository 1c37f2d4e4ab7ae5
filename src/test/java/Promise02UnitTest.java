/** Promise 2: bytes 0 to 255 are taken, 80 of them; all else does nothing. */
public final class Promise02UnitTest {
    public static void main(String[] args) {
        Check.test("Promise 2: \"A byte comes behind the text: true\", 0 and 255 too", Promise02UnitTest::takesBytes);
        Check.test("Promise 2: \"false .. when it is not 0 to 255\"", Promise02UnitTest::refusesOthers);
        Check.test("Promise 2: \"doing nothing, when it is not 0 to 255\"", Promise02UnitTest::othersLeaveNoTrace);
        Check.test("Promise 2: \"false .. or there are 80\"", Promise02UnitTest::takesEighty);
        Check.test("Promise 2: \"doing nothing .. or there are 80\"", Promise02UnitTest::the81stLeavesNoTrace);
        Check.test("Promise 2: 80 come again behind read()", Promise02UnitTest::eightyAgain);
        Check.test("Promise 2: the longest text has room", Promise02UnitTest::longestText);
        Check.test("Promise 2: typing leaves what was read and found", Promise02UnitTest::typingChangesNothingRead);
        Check.end();
    }

    private static void takesBytes() {
        for (int u = 0; u <= 255; u++) {
            Check.due("unit(" + u + ")", new LetterSums(10).unit(u), true);
        }
        // Behind the text, not ahead of it.
        LetterSums x = new LetterSums(10);
        Check.due("read()", Check.read(x, "ab-c=12"), 3);
        Check.due("run(1)", x.run(1), 1);
        Check.due("written", Check.written(x, 0), "12-0=12");
        // A byte of every kind counts when the place of the first wrong one is told.
        int[] bytes = {0, 255, 128, 32};
        for (int u : bytes) {
            Check.type(x, "a=b");
            Check.due("unit(" + u + ")", x.unit(u), true);
            Check.due("read()", x.read(), -4);
        }
    }

    private static void refusesOthers() {
        int[] others = {-1, 256, -128, -256, 'a' + 256, 'a' - 256, 'a' + 65536, Integer.MIN_VALUE, Integer.MAX_VALUE};
        for (int u : others) {
            Check.due("unit(" + u + ")", new LetterSums(10).unit(u), false);
        }
        for (int u = -300; u <= 600; u++) {
            Check.due("unit(" + u + ")", new LetterSums(10).unit(u), u >= 0 && u <= 255);
        }
    }

    private static void othersLeaveNoTrace() {
        LetterSums x = new LetterSums(10);
        Check.due("unit(256) of an empty text", x.unit(256), false);
        Check.type(x, "a");
        Check.due("unit(256)", x.unit(256), false);
        Check.type(x, "=");
        Check.due("unit(-1)", x.unit(-1), false);
        Check.type(x, "1");
        Check.due("unit(353)", x.unit('a' + 256), false);
        Check.due("read()", x.read(), 2);
        Check.due("run(9)", x.run(9), 1);
        Check.due("unit(-1) behind run", x.unit(-1), false);
        Check.due("written", Check.written(x, 0), "1=1");
    }

    /** 80 bytes, of which the one at place 11 is the first that may not be there. */
    private static void typeEighty(LetterSums x) {
        Check.type(x, "a=bccccccc" + "+".repeat(70));
    }

    private static void takesEighty() {
        LetterSums x = new LetterSums(10);
        for (int i = 0; i < 80; i++) {
            Check.due("unit(97), byte " + i, x.unit(97), true);
        }
        int[] more = {97, 0, 255, 61, 256, -1};
        for (int u : more) {
            Check.due("unit(" + u + "), the 81st", x.unit(u), false);
        }
    }

    private static void the81stLeavesNoTrace() {
        LetterSums x = Check.found(10, "a=7", 9, 1);
        // As far as a text can be right: 8 words of 8 signs, and a + behind the last.
        Check.type(x, "+".repeat(7).replace("+", "aaaaaaaa+").replaceFirst("[+]", "=") + "aaaaaaaa+" + "-".repeat(8));
        for (int time = 0; time < 100; time++) {
            Check.due("unit(49), behind the 80th", x.unit('1'), false);
        }
        Check.due("digit(0, a)", x.digit(0, 'a'), 7);
        Check.due("letters()", x.letters(), 1);
        Check.due("read()", x.read(), -1 - 72);
        Check.due("read(), nothing left", x.read(), -1);
    }

    private static void eightyAgain() {
        LetterSums x = new LetterSums(10);
        for (int time = 0; time < 3; time++) {
            typeEighty(x);
            Check.due("unit(97), the 81st", x.unit(97), false);
            Check.due("unit(300), the 81st", x.unit(300), false);
            Check.due("read()", x.read(), -12);
            Check.due("unit(97) behind read()", x.unit(97), true);
            Check.due("read()", x.read(), -2);
        }
    }

    private static void longestText() {
        String word = "abcdefgh";
        String side = word + "-" + word + "+" + word + "-" + word;
        LetterSums x = Check.found(10, side + "=" + side, 2, 2);
        Check.due("text(0, 70)", x.text(0, 70), '7');
        Check.due("text(0, 71)", x.text(0, 71), -1);
    }

    private static void typingChangesNothingRead() {
        LetterSums x = Check.found(10, "a=7", 9, 1);
        Check.type(x, "b=c");
        Check.due("letters()", x.letters(), 1);
        Check.due("letter(0)", x.letter(0), 'a');
        Check.due("digit(0, a)", x.digit(0, 'a'), 7);
        Check.due("written", Check.written(x, 0), "7=7");
        Check.due("one()", x.one(), true);
        Check.due("run(9)", x.run(9), 1);
        Check.due("read()", x.read(), 2);
        Check.due("letters()", x.letters(), 2);
    }
}
