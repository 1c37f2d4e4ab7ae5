/** Promise 12: whether there is just one answer, whatever run() found. */
public final class Promise12OneTest {
    public static void main(String[] args) {
        Check.test("Promise 12: without a text there is none", Promise12OneTest::withoutText);
        Check.test("Promise 12: \"just one answer\": one", Promise12OneTest::justOne);
        Check.test("Promise 12: \"just one answer\": none is not one", Promise12OneTest::noneIsNotOne);
        Check.test("Promise 12: \"just one answer\": two and more are not one", Promise12OneTest::moreIsNotOne);
        Check.test("Promise 12: \"by itself, whatever run() found\"", Promise12OneTest::whateverRunFound);
        Check.test("Promise 12: what run() found stays", Promise12OneTest::leavesWhatWasFound);
        Check.test("Promise 12: it goes by the barring", Promise12OneTest::goesByTheBarring);
        Check.test("Promise 12: it goes by the text that was last read", Promise12OneTest::followsTheText);
        Check.end();
    }

    private static void tells(int base, String text, boolean want) {
        LetterSums x = Check.with(base, text);
        Check.due("one() of " + text, x.one(), want);
        Check.due("one() of " + text + " again", x.one(), want);
    }

    private static void withoutText() {
        LetterSums x = new LetterSums(10);
        Check.due("one()", x.one(), false);
        x.bar(false);
        Check.due("one()", x.one(), false);
        Check.type(x, "a=1");
        Check.due("one(), nothing read", x.one(), false);
        Check.due("read()", x.read(), 2);
        Check.due("one()", x.one(), true);
    }

    private static void justOne() {
        tells(10, "send+more=money", true);
        tells(10, "a=5", true);
        tells(10, "1+1=2", true);
        tells(2, "ab=ab", true);
        tells(10, "0-a=0-9", true);
    }

    private static void noneIsNotOne() {
        tells(10, "1+1=3", false);
        tells(10, "01=1", false);
        tells(10, "a=b", false);
        tells(2, "abc=abc", false);
    }

    private static void moreIsNotOne() {
        tells(10, "a+b=1", false);
        tells(2, "a=a", false);
        tells(10, "a+a=b", false);
        tells(10, "abcdefgh=abcdefgh", false);
    }

    private static void whateverRunFound() {
        String[] texts = {"a=5", "a+b=1", "a=b", "abcdefgh=abcdefgh"};
        int[] mosts = {0, 1, 2, 1000, -1, 1001, 1};
        for (String text : texts) {
            LetterSums x = Check.with(10, text);
            for (int most : mosts) {
                x.run(most);
                Check.due("one() of " + text + " behind run(" + most + ")", x.one(), text.equals("a=5"));
            }
        }
    }

    private static void leavesWhatWasFound() {
        LetterSums x = Check.with(10, "a+a=b");
        Check.due("one()", x.one(), false);
        Check.nothingKept(x);
        Check.due("run(3)", x.run(3), 3);
        Check.due("one()", x.one(), false);
        Check.due("digit(2, a)", x.digit(2, 'a'), 3);
        Check.due("digit(3, a)", x.digit(3, 'a'), -1);
        LetterSums y = Check.found(10, "a=5", 0, 0);
        Check.due("one()", y.one(), true);
        Check.nothingKept(y);
        Check.due("run(1)", y.run(1), 1);
        Check.due("one()", y.one(), true);
        Check.due("digit(0, a)", y.digit(0, 'a'), 5);
    }

    private static void goesByTheBarring() {
        LetterSums x = Check.with(10, "01=a");
        Check.due("one(), barred", x.one(), false);
        x.bar(false);
        Check.due("one(), not barred", x.one(), true);
        x.bar(true);
        Check.due("one(), barred", x.one(), false);
        LetterSums y = Check.with(2, "ab=ab");
        Check.due("one(), barred", y.one(), true);
        y.bar(false);
        Check.due("one(), not barred", y.one(), false);
    }

    private static void followsTheText() {
        LetterSums x = Check.with(10, "a=a");
        Check.due("one()", x.one(), false);
        Check.due("read(), refused", Check.read(x, "5="), -3);
        Check.due("one(), of the text ahead", x.one(), false);
        Check.due("read()", Check.read(x, "5=a"), 2);
        Check.due("one()", x.one(), true);
        Check.due("read(), refused", Check.read(x, "a=a="), -4);
        Check.due("one(), of the text ahead", x.one(), true);
    }
}
