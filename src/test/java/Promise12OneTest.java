/** Promise 12: whether there is just one answer, whatever run() found. */
public final class Promise12OneTest {
    public static void main(String[] args) {
        Check.due("one() without a text", new LetterSums(10).one(), false);
        tells(10, "send+more=money", true);
        tells(10, "a=5", true);
        tells(10, "1+1=2", true);
        tells(10, "1+1=3", false);
        tells(10, "01=1", false);
        tells(10, "a=b", false);
        tells(10, "a+a=b", false);
        tells(10, "abcdefgh=abcdefgh", false);
        tells(2, "ab=ab", true);
        tells(2, "abc=abc", false);
        leavesWhatWasFound();
        goesByTheBarring();
        Check.end();
    }

    private static void tells(int base, String text, boolean want) {
        LetterSums x = Check.with(base, text);
        Check.due("one() of " + text, x.one(), want);
        int[] mosts = {0, 1, 2, 1000, -1};
        for (int most : mosts) {
            x.run(most);
            Check.due("one() of " + text + " behind run(" + most + ")", x.one(), want);
        }
    }

    private static void leavesWhatWasFound() {
        LetterSums x = Check.with(10, "a+a=b");
        Check.due("one()", x.one(), false);
        Check.due("digit(0, a), nothing run", x.digit(0, 'a'), -1);
        Check.due("fixed(), nothing run", x.fixed(), 0);
        Check.due("run(3)", x.run(3), 3);
        Check.due("one()", x.one(), false);
        Check.due("digit(2, a)", x.digit(2, 'a'), 3);
        Check.due("digit(3, a)", x.digit(3, 'a'), -1);
        LetterSums y = Check.with(10, "a=5");
        Check.due("run(0)", y.run(0), 0);
        Check.due("one()", y.one(), true);
        Check.due("digit(0, a), none kept", y.digit(0, 'a'), -1);
    }

    private static void goesByTheBarring() {
        LetterSums x = Check.with(10, "01=a");
        Check.due("one(), barred", x.one(), false);
        x.bar(false);
        Check.due("one(), not barred", x.one(), true);
        x.bar(true);
        Check.due("one(), barred", x.one(), false);
        Check.due("read(), refused", Check.read(x, "5="), -3);
        Check.due("one(), of the text ahead", x.one(), false);
        Check.due("read()", Check.read(x, "5=a"), 2);
        Check.due("one()", x.one(), true);
    }
}
