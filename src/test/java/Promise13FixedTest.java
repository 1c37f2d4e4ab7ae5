/** Promise 13: how many letters have the same digit in all answers kept. */
public final class Promise13FixedTest {
    public static void main(String[] args) {
        Check.due("fixed() without a text", new LetterSums(10).fixed(), 0);
        counts(10, "send+more=money", 1000, 8);
        counts(10, "a+a=b", 1000, 0);
        counts(10, "a+a=b", 1, 2);
        counts(10, "a+a=b", 0, 0);
        counts(10, "1+1=2", 1, 0);
        counts(10, "1+1=3", 1, 0);
        counts(10, "a+b=b", 1000, 1);
        counts(10, "b+a=a", 1000, 1);
        counts(10, "a5=b+35", 1000, 2);
        counts(10, "a+c-a=5", 1000, 1);
        // Of the first answers only the last letters differ.
        counts(10, "abcdefgh=abcdefgh", 3, 7);
        counts(10, "abcdefgh=abcdefgh", 4, 6);
        counts(10, "abcdefgh=abcdefgh", 1000, 3);
        followsWhatIsKept();
        Check.end();
    }

    private static void counts(int base, String text, int most, int want) {
        LetterSums x = Check.with(base, text);
        Check.due("fixed() of " + text + ", nothing run", x.fixed(), 0);
        x.run(most);
        Check.due("fixed() of " + text + " behind run(" + most + ")", x.fixed(), want);
    }

    private static void followsWhatIsKept() {
        LetterSums x = Check.with(10, "a+a=b");
        int[] mosts = {1, 1000, 1, 0, 2};
        int[] wants = {2, 0, 2, 0, 0};
        for (int i = 0; i < mosts.length; i++) {
            x.run(mosts[i]);
            Check.due("fixed() behind run(" + mosts[i] + ")", x.fixed(), wants[i]);
            x.one();
            x.run(-1);
            Check.due("fixed() again", x.fixed(), wants[i]);
        }
    }
}
