/** Promise 8: the digit of a letter in answer k. */
public final class Promise08DigitTest {
    public static void main(String[] args) {
        Check.test("Promise 8: \"The digit of a letter\" in each answer, \"from 0 on\"",
                Promise08DigitTest::eachAnswer);
        Check.test("Promise 8: digits from 0 to 9, letters from a to z", Promise08DigitTest::allDigits);
        Check.test("Promise 8: \"-1 when there is none such\": k below 0", Promise08DigitTest::answersBelow);
        Check.test("Promise 8: \"-1 when there is none such\": k not below what was kept",
                Promise08DigitTest::answersAbove);
        Check.test("Promise 8: \"-1 when there is none such\": nothing was run", Promise08DigitTest::nothingRun);
        Check.test("Promise 8: \"-1 when there is none such\": a letter that the text has not",
                Promise08DigitTest::otherLetters);
        Check.test("Promise 8: \"-1 when there is none such\": what is no letter", Promise08DigitTest::noLetters);
        Check.end();
    }

    private static void eachAnswer() {
        LetterSums x = Check.found(10, "a+a=b", 9, 4);
        for (int k = 0; k < 4; k++) {
            Check.due("digit(" + k + ", a)", x.digit(k, 'a'), k + 1);
            Check.due("digit(" + k + ", b)", x.digit(k, 'b'), 2 * k + 2);
        }
        LetterSums y = Check.found(10, "abc=abc", 1000, 648);
        Check.due("digit(647, a)", y.digit(647, 'a'), 9);
        Check.due("digit(647, b)", y.digit(647, 'b'), 8);
        Check.due("digit(647, c)", y.digit(647, 'c'), 7);
    }

    private static void allDigits() {
        for (int d = 0; d <= 9; d++) {
            for (char letter = 'a'; letter <= 'z'; letter++) {
                LetterSums x = Check.found(10, letter + "=" + d, 9, 1);
                Check.due("digit(0, " + letter + ")", x.digit(0, letter), d);
            }
        }
        String letters = "szyxwvut";
        LetterSums x = Check.found(10, letters + "=92345678", 9, 1);
        for (int i = 0; i < 8; i++) {
            Check.due("digit(0, " + letters.charAt(i) + ")", x.digit(0, letters.charAt(i)), "92345678".charAt(i) - '0');
        }
    }

    private static void answersBelow() {
        LetterSums x = Check.found(10, "a+a=b", 9, 4);
        int[] answers = {-1, -2, -4, Integer.MIN_VALUE};
        for (int k : answers) {
            Check.due("digit(" + k + ", a)", x.digit(k, 'a'), -1);
        }
    }

    private static void answersAbove() {
        LetterSums x = Check.found(10, "a+a=b", 9, 4);
        int[] answers = {4, 5, 999, 1000, 1001, Integer.MAX_VALUE};
        for (int k : answers) {
            Check.due("digit(" + k + ", a)", x.digit(k, 'a'), -1);
        }
        Check.due("digit(3, a)", x.digit(3, 'a'), 4);
        // Kept are no more than the last run was asked for.
        Check.due("run(1)", x.run(1), 1);
        Check.due("digit(0, a)", x.digit(0, 'a'), 1);
        Check.due("digit(1, a)", x.digit(1, 'a'), -1);
        LetterSums y = Check.found(10, "abcdefgh=abcdefgh", 1000, 1000);
        Check.due("digit(999, a)", y.digit(999, 'a'), 1);
        Check.due("digit(1000, a)", y.digit(1000, 'a'), -1);
    }

    private static void nothingRun() {
        Check.due("digit(0, a), no text", new LetterSums(10).digit(0, 'a'), -1);
        LetterSums x = Check.with(10, "a=1");
        Check.due("digit(0, a), not run", x.digit(0, 'a'), -1);
        x.one();
        Check.due("digit(0, a) behind one()", x.digit(0, 'a'), -1);
        Check.due("digit(0, a), no answer", Check.found(10, "a=10", 9, 0).digit(0, 'a'), -1);
    }

    private static void otherLetters() {
        LetterSums x = Check.found(10, "b+y=10", 9, 8);
        int[] letters = {'a', 'c', 'x', 'z'};
        for (int letter : letters) {
            Check.due("digit(0, " + letter + ")", x.digit(0, letter), -1);
        }
        Check.due("digit(0, a), no letter at all", Check.found(10, "1=1", 9, 1).digit(0, 'a'), -1);
        // A letter of the text ahead is none of this one's.
        Check.due("read()", Check.read(x, "c=4"), 2);
        Check.due("run(9)", x.run(9), 1);
        Check.due("digit(0, b)", x.digit(0, 'b'), -1);
        Check.due("digit(0, y)", x.digit(0, 'y'), -1);
        Check.due("digit(0, c)", x.digit(0, 'c'), 4);
    }

    private static void noLetters() {
        LetterSums x = Check.found(10, "a+1=z", 9, 9);
        int[] letters = {'1', '+', '=', '-', 0, 1, -1, 'a' - 1, 'z' + 1, 'A', 'Z', 255, 256, 'a' + 256, 'a' - 256,
            'a' + 128, 'a' + 32, 'a' - 32, 'a' + 65536, Integer.MIN_VALUE, Integer.MAX_VALUE,
            Integer.MIN_VALUE + 'a'};
        for (int letter : letters) {
            Check.due("digit(0, " + letter + ")", x.digit(0, letter), -1);
        }
    }
}
