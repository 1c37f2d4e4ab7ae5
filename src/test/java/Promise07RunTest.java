/** Promise 7: the first answers in order, no more than most. */
public final class Promise07RunTest {
    public static void main(String[] args) {
        keepsToMost();
        refusesOtherMosts();
        countsAnswers();
        keepsTheOrder();
        needsEnoughDigits();
        Check.end();
    }

    private static void keepsToMost() {
        LetterSums x = Check.with(10, "abcdefgh=abcdefgh");
        int[] mosts = {3, 1000, 0, 1, 999, 7};
        for (int most : mosts) {
            Check.due("run(" + most + ")", x.run(most), most);
            Check.due("text(most, 0)", x.text(most, 0), -1);
            Check.due("text(most - 1, 0)", x.text(most - 1, 0) > 0, most > 0);
        }
        Check.due("written(0)", Check.written(x, 0), "10234567=10234567");
        Check.due("written(6)", Check.written(x, 6), "10234586=10234586");
    }

    private static void refusesOtherMosts() {
        LetterSums x = Check.with(10, "a+a=b");
        Check.due("run(2)", x.run(2), 2);
        int[] mosts = {-1, 1001, Integer.MIN_VALUE, Integer.MAX_VALUE};
        for (int most : mosts) {
            Check.due("run(" + most + ")", x.run(most), -1);
            Check.due("digit(1, b) stays", x.digit(1, 'b'), 4);
            Check.due("digit(2, b)", x.digit(2, 'b'), -1);
            Check.due("run(" + most + ") without a text", new LetterSums(10).run(most), -1);
        }
        Check.due("run(0)", x.run(0), 0);
        Check.due("digit(0, b)", x.digit(0, 'b'), -1);
        Check.due("run(1000)", x.run(1000), 4);
    }

    private static void counts(int base, String text, int want) {
        Check.due("base " + base + ": run(1000) of " + text, Check.with(base, text).run(1000), want);
    }

    private static void countsAnswers() {
        counts(10, "1+1=2", 1);
        counts(10, "1+1=3", 0);
        counts(2, "1+1=10", 1);
        counts(10, "a=b", 0);
        counts(10, "a=1", 1);
        // A letter may have the digit of a digit in the text.
        counts(10, "a+1=2", 1);
        counts(10, "a-b=0", 0);
        counts(10, "a-a=b-b", 90);
        counts(10, "two+two=four", 7);
        counts(10, "abcdefgh=87654321", 1);
        counts(10, "hgfedcba=87654321", 1);
        counts(10, "abcdefgh=00000000", 0);
        counts(10, "abcd-efgh=0", 0);
        counts(10, "a=10", 0);
        counts(10, "0-a=0-9", 1);
    }

    private static void keepsTheOrder() {
        // The order goes by the alphabet, not by where a letter stands.
        LetterSums x = Check.with(10, "z-a=1");
        Check.due("run(1000)", x.run(1000), 9);
        for (int k = 0; k < 9; k++) {
            Check.due("digit(" + k + ", a)", x.digit(k, 'a'), k);
        }
        LetterSums y = Check.with(10, "fea=dcb");
        Check.due("run(5)", y.run(5), 0);
        LetterSums z = Check.with(4, "dcba=dcba");
        Check.due("run(1000)", z.run(1000), 18);
        Check.due("written(0)", Check.written(z, 0), "3210=3210");
        Check.due("written(1)", Check.written(z, 1), "2310=2310");
        Check.due("written(17)", Check.written(z, 17), "1023=1023");
    }

    private static void needsEnoughDigits() {
        counts(2, "abc=abc", 0);
        counts(3, "a+b+c=10", 6);
        counts(7, "abcdefgh=abcdefgh", 0);
        counts(8, "abcdefg=abcdefg", 1000);
        counts(5, "abcde=abcde", 96);
    }
}
