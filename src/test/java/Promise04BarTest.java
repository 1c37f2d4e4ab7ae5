/** Promise 4: zeros at the front barred or not; what was found is gone. */
public final class Promise04BarTest {
    public static void main(String[] args) {
        barsFrontZeros();
        barsWrittenZeros();
        oneSignMayBeZero();
        takesWhatWasFound();
        staysOverReading();
        Check.end();
    }

    private static void counts(int base, String text, int barred, int free) {
        LetterSums x = Check.with(base, text);
        Check.due(text + " at first", x.run(1000), barred);
        x.bar(false);
        Check.due(text + " not barred", x.run(1000), free);
        x.bar(true);
        Check.due(text + " barred", x.run(1000), barred);
        x.bar(false);
        Check.due(text + " not barred again", x.run(1000), free);
    }

    private static void barsFrontZeros() {
        counts(10, "send+more=money", 1, 25);
        counts(10, "ab=ab", 81, 90);
        counts(10, "a0=b0", 0, 0);
        counts(10, "a0=a0", 9, 10);
        counts(10, "a+b0=a", 0, 9);
        counts(10, "a=a+b0", 0, 9);
        counts(10, "a-b0=a", 0, 9);
        counts(2, "ab=ab", 1, 2);
    }

    private static void barsWrittenZeros() {
        counts(10, "01=a", 0, 1);
        counts(10, "a=01", 0, 1);
        counts(10, "a+00=1", 0, 1);
        counts(10, "a-00=1", 0, 1);
        counts(10, "01=1", 0, 1);
        counts(10, "10=10", 1, 1);
        counts(10, "0a=a", 0, 10);
    }

    private static void oneSignMayBeZero() {
        counts(10, "a=0", 1, 1);
        counts(10, "0=0", 1, 1);
        counts(10, "a+0=b+1", 9, 9);
    }

    private static void takesWhatWasFound() {
        boolean[] ways = {true, false, false, true, true};
        LetterSums x = Check.with(10, "a+1=2");
        for (boolean on : ways) {
            Check.due("run(9)", x.run(9), 1);
            Check.due("fixed()", x.fixed(), 1);
            x.bar(on);
            Check.due("digit(0, a)", x.digit(0, 'a'), -1);
            Check.due("side(0, 1)", x.side(0, 1), -1);
            Check.due("carry(0, 0)", x.carry(0, 0), -1);
            Check.due("text(0, 0)", x.text(0, 0), -1);
            Check.due("fixed()", x.fixed(), 0);
            Check.due("letters()", x.letters(), 1);
        }
    }

    private static void staysOverReading() {
        LetterSums x = new LetterSums(10);
        x.bar(false);
        Check.due("read()", Check.read(x, "01=a"), 2);
        Check.due("run(9)", x.run(9), 1);
        Check.due("read(), refused", Check.read(x, "0"), -2);
        Check.due("read()", Check.read(x, "02=a"), 2);
        Check.due("run(9)", x.run(9), 1);
        Check.due("digit(0, a)", x.digit(0, 'a'), 2);
        x.bar(true);
        Check.due("run(9)", x.run(9), 0);
    }
}
