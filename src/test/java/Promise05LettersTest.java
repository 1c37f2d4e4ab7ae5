/** Promise 5: how many different letters there are. */
public final class Promise05LettersTest {
    public static void main(String[] args) {
        Check.test("Promise 5: none without a text", Promise05LettersTest::noText);
        Check.test("Promise 5: none in a text of digits", Promise05LettersTest::digitsAlone);
        Check.test("Promise 5: \"How many different letters\": the same one counts once",
                Promise05LettersTest::sameLetter);
        Check.test("Promise 5: all from 1 to 8, a and z too", Promise05LettersTest::oneToEight);
        Check.test("Promise 5: more letters than digits are there too", Promise05LettersTest::moreThanDigits);
        Check.test("Promise 5: run, one and bar leave them", Promise05LettersTest::staysOverCalls);
        Check.test("Promise 5: they are those of the text that was last read", Promise05LettersTest::followsTheText);
        Check.end();
    }

    private static void counts(int base, String text, int want) {
        Check.due("letters() of " + text, Check.with(base, text).letters(), want);
    }

    private static void noText() {
        LetterSums x = new LetterSums(10);
        Check.due("letters()", x.letters(), 0);
        Check.type(x, "a=b");
        Check.due("letters(), nothing read", x.letters(), 0);
        Check.due("read()", x.read(), 2);
        Check.due("letters()", x.letters(), 2);
    }

    private static void digitsAlone() {
        counts(10, "1+1=2", 0);
        counts(10, "12345678=90", 0);
    }

    private static void sameLetter() {
        counts(10, "a=a", 1);
        counts(10, "aaaaaaaa+a1a=aa", 1);
        counts(10, "ab+ba-ab=ba", 2);
        counts(10, "send+more=money", 8);
        counts(10, "abcdefgh=hgfedcba", 8);
    }

    private static void oneToEight() {
        for (int n = 1; n <= 8; n++) {
            counts(10, "abcdefgh".substring(0, n) + "=1", n);
            counts(10, "1=" + "stuvwxyz".substring(8 - n), n);
        }
        counts(10, "a=z", 2);
        counts(10, "a+b+c+d=e+f+g+h", 8);
    }

    private static void moreThanDigits() {
        counts(2, "abc=1", 3);
        counts(2, "abcdefgh=1", 8);
        counts(7, "abcdefgh=1", 8);
    }

    private static void staysOverCalls() {
        LetterSums x = Check.with(10, "a+bc=cb");
        x.run(3);
        Check.due("letters() behind run(3)", x.letters(), 3);
        x.run(-1);
        x.one();
        Check.due("letters() behind one()", x.letters(), 3);
        x.bar(false);
        Check.due("letters() behind bar(false)", x.letters(), 3);
    }

    private static void followsTheText() {
        LetterSums x = Check.with(10, "abc=def");
        Check.due("read(), refused", Check.read(x, "xy="), -4);
        Check.due("letters()", x.letters(), 6);
        Check.due("read()", Check.read(x, "1=1"), 2);
        Check.due("letters()", x.letters(), 0);
        Check.due("read()", Check.read(x, "c=z"), 2);
        Check.due("letters()", x.letters(), 2);
    }
}
