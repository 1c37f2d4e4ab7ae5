/** Promise 6: letter k by the alphabet. */
public final class Promise06LetterTest {
    public static void main(String[] args) {
        Check.test("Promise 6: \"by the alphabet\"", Promise06LetterTest::byTheAlphabet);
        Check.test("Promise 6: \"from 0 on\", a first and z last", Promise06LetterTest::firstAndLast);
        Check.test("Promise 6: \"-1 when there is none\": k below 0", Promise06LetterTest::below);
        Check.test("Promise 6: \"-1 when there is none\": k not below letters()", Promise06LetterTest::above);
        Check.test("Promise 6: \"-1 when there is none\": no text, or no letter in it", Promise06LetterTest::noLetters);
        Check.test("Promise 6: they are those of the text that was last read", Promise06LetterTest::followsTheText);
        Check.end();
    }

    private static void lists(String text, String want) {
        LetterSums x = Check.with(10, text);
        for (int k = 0; k < want.length(); k++) {
            Check.due("letter(" + k + ") of " + text, x.letter(k), want.charAt(k));
        }
    }

    private static void byTheAlphabet() {
        lists("send+more=money", "demnorsy");
        lists("z+y=a", "ayz");
        lists("hgfedcba=1", "abcdefgh");
        lists("b+1=a", "ab");
        lists("mzam=azmz", "amz");
    }

    private static void firstAndLast() {
        lists("a=1", "a");
        lists("z=z", "z");
        lists("z=a", "az");
        lists("zyxwvuts=1", "stuvwxyz");
    }

    private static void below() {
        LetterSums x = Check.with(10, "abcd=efgh");
        int[] none = {-1, -2, -8, -97, Integer.MIN_VALUE};
        for (int k : none) {
            Check.due("letter(" + k + ")", x.letter(k), -1);
        }
    }

    private static void above() {
        for (int n = 1; n <= 8; n++) {
            LetterSums x = Check.with(10, "abcdefgh".substring(0, n) + "=1");
            Check.due("letter(" + (n - 1) + ") of " + n, x.letter(n - 1), 'a' + n - 1);
            int[] none = {n, n + 1, 8, 9, 26, 97, Integer.MAX_VALUE};
            for (int k : none) {
                Check.due("letter(" + k + ") of " + n, x.letter(k), -1);
            }
        }
    }

    private static void noLetters() {
        LetterSums x = new LetterSums(10);
        Check.due("letter(0)", x.letter(0), -1);
        Check.type(x, "a=b");
        Check.due("letter(0), nothing read", x.letter(0), -1);
        LetterSums y = Check.with(10, "1=1");
        Check.due("letter(0) of digits", y.letter(0), -1);
        Check.due("letter(1) of digits", y.letter(1), -1);
    }

    private static void followsTheText() {
        LetterSums x = Check.with(10, "abc=def");
        Check.due("read()", Check.read(x, "q=p"), 2);
        Check.due("letter(0)", x.letter(0), 'p');
        Check.due("letter(1)", x.letter(1), 'q');
        Check.due("letter(2)", x.letter(2), -1);
        Check.due("read(), refused", Check.read(x, "x+"), -3);
        Check.due("letter(0)", x.letter(0), 'p');
        Check.due("read()", Check.read(x, "1=1"), 2);
        Check.due("letter(0)", x.letter(0), -1);
    }
}
