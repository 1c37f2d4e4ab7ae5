/** Promise 1: a new object has no text, and its base is held to 2 to 10. */
public final class Promise01NewTest {
    public static void main(String[] args) {
        hasNoText();
        holdsTheBase(Integer.MIN_VALUE, 2);
        holdsTheBase(-1, 2);
        holdsTheBase(0, 2);
        holdsTheBase(1, 2);
        for (int base = 2; base <= 10; base++) {
            holdsTheBase(base, base);
        }
        holdsTheBase(11, 10);
        holdsTheBase(Integer.MAX_VALUE, 10);
        Check.end();
    }

    private static void hasNoText() {
        LetterSums x = new LetterSums(10);
        Check.due("letters()", x.letters(), 0);
        Check.due("letter(0)", x.letter(0), -1);
        Check.due("digit(0, 97)", x.digit(0, 97), -1);
        Check.due("side(0, 0)", x.side(0, 0), -1);
        Check.due("carry(0, 0)", x.carry(0, 0), -1);
        Check.due("text(0, 0)", x.text(0, 0), -1);
        Check.due("fixed()", x.fixed(), 0);
        Check.due("one()", x.one(), false);
        Check.due("run(1000)", x.run(1000), 0);
        Check.due("read()", x.read(), -1);
    }

    private static void holdsTheBase(int given, int base) {
        LetterSums x = new LetterSums(given);
        String call = "base " + given + ": ";
        Check.due(call + "read()", Check.read(x, "10=a" + (base - 1)), 2);
        Check.due(call + "run(9)", x.run(9), 0);
        Check.due(call + "read()", Check.read(x, "a=b"), 2);
        Check.due(call + "run(9)", x.run(9), 0);
        Check.due(call + "read()", Check.read(x, "a=a"), 2);
        Check.due(call + "run(1000)", x.run(1000), base);
        Check.due(call + "read()", Check.read(x, "10+a=10"), 3);
        Check.due(call + "run(1)", x.run(1), 1);
        Check.due(call + "side(0, 0)", x.side(0, 0), base);
        if (base < 10) {
            Check.due(call + "read()", Check.read(x, "a=" + base), -3);
        }
    }
}
