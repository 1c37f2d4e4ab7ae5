/** Promise 13: how many letters have the same digit in all answers kept. */
public final class Promise13FixedTest {
    public static void main(String[] args) {
        Check.test("Promise 13: \"the same digit in all answers\"", Promise13FixedTest::sameInAll);
        Check.test("Promise 13: of one answer all letters", Promise13FixedTest::oneAnswer);
        Check.test("Promise 13: the last answer alone differs", Promise13FixedTest::lastDiffers);
        Check.test("Promise 13: \"kept\": those of the last run alone", Promise13FixedTest::keptAlone);
        Check.test("Promise 13: \"0 when there are none\": no text, or nothing run", Promise13FixedTest::nothingRun);
        Check.test("Promise 13: \"0 when there are none\": run(0), or no answer", Promise13FixedTest::noneKept);
        Check.test("Promise 13: \"0 when there are none\": what was found is gone", Promise13FixedTest::foundIsGone);
        Check.test("Promise 13: 0 of a text without letters", Promise13FixedTest::noLetters);
        Check.end();
    }

    private static void counts(int base, String text, int most, int want) {
        LetterSums x = Check.with(base, text);
        Check.due("run(" + most + ") of " + text + " finds some", x.run(most) > 0, true);
        Check.due("fixed() of " + text + " behind run(" + most + ")", x.fixed(), want);
    }

    private static void sameInAll() {
        counts(10, "a+a=b", 1000, 0);
        counts(10, "a+b=b", 1000, 1);
        counts(10, "b+a=a", 1000, 1);
        counts(10, "a5=b+35", 1000, 2);
        counts(10, "a+c-a=5", 1000, 1);
        counts(10, "abcdefgh=abcdefgh", 1000, 3);
        counts(10, "z-a+y-x=1+y-x", 1000, 0);
    }

    private static void oneAnswer() {
        counts(10, "send+more=money", 1000, 8);
        counts(10, "a+a=b", 1, 2);
        counts(10, "abcdefgh=abcdefgh", 1, 8);
        counts(10, "a=0", 1000, 1);
    }

    private static void lastDiffers() {
        // Of the first answers only the last letters differ.
        counts(10, "abcdefgh=abcdefgh", 3, 7);
        counts(10, "abcdefgh=abcdefgh", 4, 6);
        // a is 1 in 504 answers, and 2 in the next.
        counts(10, "abcd=abcd", 504, 1);
        counts(10, "abcd=abcd", 505, 0);
    }

    private static void keptAlone() {
        LetterSums x = Check.with(10, "a+a=b");
        int[] mosts = {1, 1000, 1, 0, 2};
        int[] wants = {2, 0, 2, 0, 0};
        for (int i = 0; i < mosts.length; i++) {
            x.run(mosts[i]);
            Check.due("fixed() behind run(" + mosts[i] + ")", x.fixed(), wants[i]);
            x.one();
            x.run(-1);
            Check.due("fixed() again", x.fixed(), wants[i]);
        }
    }

    private static void nothingRun() {
        LetterSums x = new LetterSums(10);
        Check.due("fixed(), no text", x.fixed(), 0);
        Check.due("read()", Check.read(x, "a=1"), 2);
        Check.due("fixed(), not run", x.fixed(), 0);
        x.one();
        Check.due("fixed() behind one()", x.fixed(), 0);
        x.run(1001);
        Check.due("fixed() behind a refused run", x.fixed(), 0);
    }

    private static void noneKept() {
        LetterSums x = Check.found(10, "a=1", 0, 0);
        Check.due("fixed() behind run(0)", x.fixed(), 0);
        LetterSums y = Check.found(10, "a=10", 1000, 0);
        Check.due("fixed(), no answer", y.fixed(), 0);
    }

    private static void foundIsGone() {
        LetterSums x = Check.found(10, "a=1", 9, 1);
        Check.due("fixed()", x.fixed(), 1);
        x.bar(true);
        Check.due("fixed() behind bar", x.fixed(), 0);
        Check.due("run(9)", x.run(9), 1);
        Check.due("read()", Check.read(x, "a=1"), 2);
        Check.due("fixed() behind read", x.fixed(), 0);
        Check.due("run(9)", x.run(9), 1);
        Check.due("read(), refused", Check.read(x, "a="), -3);
        Check.due("fixed() behind a refused text", x.fixed(), 1);
    }

    private static void noLetters() {
        counts(10, "1+1=2", 1, 0);
        LetterSums x = Check.found(10, "a=1", 9, 1);
        Check.due("read()", Check.read(x, "1=1"), 2);
        Check.due("run(9)", x.run(9), 1);
        Check.due("fixed()", x.fixed(), 0);
    }
}
