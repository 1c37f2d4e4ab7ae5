/** Promise 6: letter k by the alphabet. */
public final class Promise06LetterTest {
    public static void main(String[] args) {
        lists("send+more=money", "demnorsy");
        lists("z+y=a", "ayz");
        lists("1=1", "");
        lists("hgfedcba=1", "abcdefgh");
        lists("z=z", "z");
        followsTheText();
        Check.end();
    }

    private static void lists(String text, String want) {
        LetterSums x = Check.with(10, text);
        for (int k = 0; k < want.length(); k++) {
            Check.due("letter(" + k + ") of " + text, x.letter(k), want.charAt(k));
        }
        int[] none = {want.length(), 8, 9, 26, -1, Integer.MIN_VALUE, Integer.MAX_VALUE};
        for (int k : none) {
            Check.due("letter(" + k + ") of " + text, x.letter(k), -1);
        }
    }

    private static void followsTheText() {
        LetterSums x = Check.with(10, "abc=def");
        Check.due("read()", Check.read(x, "q=p"), 2);
        Check.due("letter(0)", x.letter(0), 'p');
        Check.due("letter(1)", x.letter(1), 'q');
        Check.due("letter(2)", x.letter(2), -1);
        Check.due("read(), refused", Check.read(x, "x+"), -3);
        Check.due("letter(0)", x.letter(0), 'p');
    }
}
