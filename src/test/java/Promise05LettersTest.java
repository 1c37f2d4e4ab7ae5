/** Promise 5: how many different letters there are. */
public final class Promise05LettersTest {
    public static void main(String[] args) {
        Check.due("letters() of a new object", new LetterSums(10).letters(), 0);
        counts("1+1=2", 0);
        counts("a=a", 1);
        counts("aaaa+a1a=aa", 1);
        counts("a=z", 2);
        counts("send+more=money", 8);
        counts("abcdefgh=hgfedcba", 8);
        counts("stuvwxyz=1", 8);
        followsTheText();
        Check.end();
    }

    private static void counts(String text, int want) {
        LetterSums x = Check.with(10, text);
        Check.due("letters() of " + text, x.letters(), want);
        x.run(3);
        x.bar(false);
        Check.due("letters() of " + text, x.letters(), want);
        // More letters than digits: none can be given, yet they are there.
        Check.due("letters() in base 2", Check.with(2, text.replaceAll("[0-9]", "1")).letters(), want);
    }

    private static void followsTheText() {
        LetterSums x = Check.with(10, "abc=def");
        Check.due("read(), refused", Check.read(x, "xy="), -4);
        Check.due("letters()", x.letters(), 6);
        Check.due("read()", Check.read(x, "1=1"), 2);
        Check.due("letters()", x.letters(), 0);
    }
}
