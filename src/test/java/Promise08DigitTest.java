/** Promise 8: the digit of a letter in answer k. */
public final class Promise08DigitTest {
    public static void main(String[] args) {
        tellsDigits();
        tellsTheLastLetters();
        refusesWhatIsNotThere();
        Check.end();
    }

    private static void tellsDigits() {
        LetterSums x = Check.with(10, "a+a=b");
        Check.due("run(9)", x.run(9), 4);
        for (int k = 0; k < 4; k++) {
            Check.due("digit(" + k + ", a)", x.digit(k, 'a'), k + 1);
            Check.due("digit(" + k + ", b)", x.digit(k, 'b'), 2 * k + 2);
        }
    }

    private static void tellsTheLastLetters() {
        LetterSums x = Check.with(10, "szyxwvut=92345678");
        Check.due("run(9)", x.run(9), 1);
        String letters = "szyxwvut";
        for (int i = 0; i < 8; i++) {
            Check.due("digit(0, " + letters.charAt(i) + ")", x.digit(0, letters.charAt(i)), "92345678".charAt(i) - '0');
        }
    }

    private static void refusesWhatIsNotThere() {
        LetterSums x = Check.with(10, "a+b=c1");
        Check.due("digit(0, a) ahead of run", x.digit(0, 'a'), -1);
        int found = x.run(1000);
        Check.due("found some", found > 0, true);
        int[] letters = {'d', 'z', '1', '+', '=', 0, -1, 'a' - 1, 'z' + 1, 'a' + 256, 'a' - 256, 'A',
                Integer.MIN_VALUE, Integer.MAX_VALUE};
        for (int letter : letters) {
            Check.due("digit(0, " + letter + ")", x.digit(0, letter), -1);
        }
        int[] answers = {found, found + 1, 1000, -1, Integer.MIN_VALUE, Integer.MAX_VALUE};
        for (int k : answers) {
            Check.due("digit(" + k + ", a)", x.digit(k, 'a'), -1);
        }
        Check.due("digit(found - 1, a)", x.digit(found - 1, 'a') >= 0, true);
        Check.due("run(1)", x.run(1), 1);
        Check.due("digit(1, a)", x.digit(1, 'a'), -1);
    }
}
