/** Promise 1: a new object has no text, and its base is held to 2 to 10. */
public final class Promise01NewTest {
    public static void main(String[] args) {
        Check.test("Promise 1: \"No text.\"", Promise01NewTest::hasNoText);
        Check.test("Promise 1: \"base is held to 2 to 10\": 2 to 10 stay", Promise01NewTest::basesThatStay);
        Check.test("Promise 1: \"what is below counts as 2\"", Promise01NewTest::basesBelow);
        Check.test("Promise 1: \"what is above as 10\"", Promise01NewTest::basesAbove);
        Check.end();
    }

    private static void hasNoText() {
        for (int base = 1; base <= 11; base++) {
            LetterSums x = new LetterSums(base);
            Check.due("letters()", x.letters(), 0);
            Check.due("letter(0)", x.letter(0), -1);
            Check.nothingKept(x);
            Check.due("one()", x.one(), false);
            Check.due("run(1000)", x.run(1000), 0);
            Check.nothingKept(x);
            Check.due("read()", x.read(), -1);
        }
    }

    private static void basesThatStay() {
        for (int base = 2; base <= 10; base++) {
            countsAs(base, base);
        }
    }

    private static void basesBelow() {
        int[] below = {1, 0, -1, -2, -10, Integer.MIN_VALUE};
        for (int base : below) {
            countsAs(base, 2);
        }
    }

    private static void basesAbove() {
        int[] above = {11, 12, 16, 36, 258, Integer.MAX_VALUE};
        for (int base : above) {
            countsAs(base, 10);
        }
    }

    private static void countsAs(int given, int base) {
        LetterSums x = new LetterSums(given);
        String call = "base " + given + ": ";
        Check.due(call + "read()", Check.read(x, "a=" + (base - 1)), 2);
        Check.due(call + "run(9)", x.run(9), 1);
        Check.due(call + "digit(0, a)", x.digit(0, 'a'), base - 1);
        Check.due(call + "read()", Check.read(x, "a=a"), 2);
        Check.due(call + "run(1000)", x.run(1000), base);
        Check.due(call + "read()", Check.read(x, "10+a=10"), 3);
        Check.due(call + "run(1)", x.run(1), 1);
        Check.due(call + "side(0, 0)", x.side(0, 0), base);
        if (base < 10) {
            Check.due(call + "read()", Check.read(x, "a=" + base), -3);
        }
    }
}
