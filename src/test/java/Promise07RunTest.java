/** Promise 7: the first answers in order, no more than most. */
public final class Promise07RunTest {
    public static void main(String[] args) {
        whatIsAnAnswer();
        Check.test("Promise 7: \"All answers are found\", as many as most or fewer", Promise07RunTest::aroundTheCount);
        Check.test("Promise 7: \"no more than most\": 0 keeps none", Promise07RunTest::mostOfNone);
        Check.test("Promise 7: \"no more than most\": 1,000 of more", Promise07RunTest::mostOfAThousand);
        Check.test("Promise 7: \"the first ones\"", Promise07RunTest::firstOnes);
        Check.test("Promise 7: \"-1 .. when most is not so\": below 0", Promise07RunTest::mostBelow);
        Check.test("Promise 7: \"-1 .. when most is not so\": above 1,000", Promise07RunTest::mostAbove);
        Check.test("Promise 7: \"doing nothing, when most is not so\"", Promise07RunTest::refusalDoesNothing);
        Check.test("Promise 7: \"Without a text there is none\"", Promise07RunTest::withoutText);
        Check.test("Promise 7: each run takes the place of the one ahead", Promise07RunTest::runsAgain);
        Check.end();
    }

    private static void whatIsAnAnswer() {
        Check.test("Promise 7: AN ANSWER, \"both sides are alike\"", Promise07RunTest::sidesAlike);
        Check.test("Promise 7: AN ANSWER, \"a digit less than the base\"", Promise07RunTest::digitsBelowTheBase);
        Check.test("Promise 7: AN ANSWER, \"no two letters the same one\"", Promise07RunTest::unlikeDigits);
        Check.test("Promise 7: AN ANSWER, more letters than digits: none", Promise07RunTest::needsEnoughDigits);
        Check.test("Promise 7: AN ANSWER, \"each word read as a number in the base\"", Promise07RunTest::readInTheBase);
        Check.test("Promise 7: AN ANSWER, of a text without letters", Promise07RunTest::noLetters);
        Check.test("Promise 7: AN ANSWER, the \"lesser digit for the first letter (by the alphabet)\" is ahead",
                Promise07RunTest::inOrder);
        Check.test("Promise 7: AN ANSWER, the greatest sums", Promise07RunTest::greatestSums);
    }

    private static void counts(int base, String text, int want) {
        Check.found(base, text, 1000, want);
    }

    private static void sidesAlike() {
        counts(10, "a=1", 1);
        counts(10, "a=b", 0);
        counts(10, "a+1=2", 1);
        counts(10, "a-b=0", 0);
        counts(10, "0-a=0-9", 1);
        counts(10, "two+two=four", 7);
        counts(10, "abcdefgh=87654321", 1);
        counts(10, "hgfedcba=87654321", 1);
        counts(10, "abcdefgh=00000000", 0);
        counts(10, "abcd-efgh=0", 0);
    }

    private static void digitsBelowTheBase() {
        for (int base = 2; base <= 10; base++) {
            counts(base, "a=a", base);
            counts(base, "a+1=10", 1);
            counts(base, "a=10", 0);
            LetterSums x = Check.found(base, "a+1=10", 9, 1);
            Check.due("digit(0, a)", x.digit(0, 'a'), base - 1);
        }
    }

    private static void unlikeDigits() {
        counts(10, "a-a=b-b", 90);
        counts(10, "a+b=a+b", 90);
        counts(10, "a+b=0", 0);
        counts(10, "a+b+c=3", 6);
        counts(10, "a+e=2", 2);
        // A letter may well have the digit of a digit in the text.
        counts(10, "a+1=2", 1);
        counts(10, "a+0123456-0123456=5", 0);
        counts(10, "a+123456-123456=5", 1);
    }

    private static void needsEnoughDigits() {
        for (int base = 2; base <= 8; base++) {
            String letters = "abcdefgh".substring(0, Math.min(8, base));
            Check.due("letters() as many as digits", Check.with(base, letters + "=" + letters).run(1), 1);
            if (base < 8) {
                String more = "abcdefgh".substring(0, base + 1);
                counts(base, more + "=" + more, 0);
            }
        }
        counts(2, "abcdefgh=abcdefgh", 0);
        counts(3, "a+b+c=10", 6);
        counts(8, "abcdefg=abcdefg", 1000);
        counts(5, "abcde=abcde", 96);
    }

    private static void readInTheBase() {
        counts(2, "1+1=10", 1);
        counts(3, "1+1=10", 0);
        counts(8, "7+1=10", 1);
        counts(9, "88+1=100", 1);
        counts(2, "11111111+1=a0000000+b0000000", 0);
        counts(2, "11111111-1=1111111a", 1);
        counts(5, "44444444=a0000000+b4444444", 2);
        counts(5, "44444444=a0000000+44444444-40000000", 1);
    }

    private static void noLetters() {
        counts(10, "1+1=2", 1);
        counts(10, "1+1=3", 0);
        counts(10, "0=0", 1);
        LetterSums x = Check.with(10, "1+1=2");
        Check.due("run(0)", x.run(0), 0);
        Check.due("run(1)", x.run(1), 1);
    }

    private static void inOrder() {
        // The order goes by the alphabet, not by where a letter stands.
        LetterSums x = Check.found(10, "z-a=1", 1000, 9);
        for (int k = 0; k < 9; k++) {
            Check.due("digit(" + k + ", a)", x.digit(k, 'a'), k);
        }
        LetterSums y = Check.found(4, "dcba=dcba", 1000, 18);
        Check.due("written(0)", Check.written(y, 0), "3210=3210");
        Check.due("written(1)", Check.written(y, 1), "2310=2310");
        Check.due("written(17)", Check.written(y, 17), "1023=1023");
        LetterSums z = Check.found(10, "abcdefgh=abcdefgh", 1000, 1000);
        long ahead = 0;
        for (int k = 0; k < 1000; k++) {
            long next = z.side(k, 0);
            Check.due("answer " + k + " is behind the one ahead", next > ahead, true);
            ahead = next;
        }
    }

    private static void greatestSums() {
        counts(10, "99999999+99999999+99999999+99999999=a9999999+99999999+99999999+99999999", 1);
        counts(10, "0-99999999-99999999-99999999=0-99999999-99999999-9999999a", 1);
        counts(10, "aaaaaaaa+aaaaaaaa+aaaaaaaa+aaaaaaaa=bbbbbbbb+bbbbbbbb+bbbbbbbb+bbbbbbbb", 0);
        counts(10, "aaaaaaaa-bbbbbbbb-bbbbbbbb-bbbbbbbb=bbbbbbbb+bbbbbbbb+bbbbbbbb+bbbbbbbb", 1);
        counts(10, "99999999-a=0", 0);
    }

    private static void aroundTheCount() {
        LetterSums x = Check.with(10, "a+a=b");
        int[] mosts = {3, 4, 5, 1000, 999};
        int[] wants = {3, 4, 4, 4, 4};
        for (int i = 0; i < mosts.length; i++) {
            Check.due("run(" + mosts[i] + ")", x.run(mosts[i]), wants[i]);
            Check.due("text(last, 0)", x.text(wants[i] - 1, 0), '0' + wants[i]);
            Check.due("text(behind, 0)", x.text(wants[i], 0), -1);
        }
        counts(10, "abc=abc", 648);
        LetterSums y = Check.with(10, "abc=abc");
        y.bar(false);
        Check.due("run(1000)", y.run(1000), 720);
        Check.due("run(719)", y.run(719), 719);
        Check.due("written(718)", Check.written(y, 718), "986=986");
    }

    private static void mostOfNone() {
        LetterSums x = Check.with(10, "a+a=b");
        Check.due("run(0)", x.run(0), 0);
        Check.nothingKept(x);
        Check.due("run(4)", x.run(4), 4);
        Check.due("run(0)", x.run(0), 0);
        Check.nothingKept(x);
    }

    private static void mostOfAThousand() {
        // The first of these has 4,536 answers.
        String[] texts = {"abcd=abcd", "abcdef=abcdef", "abcdefgh=abcdefgh", "a+b+c+d=e+f+g+h"};
        for (String text : texts) {
            LetterSums x = Check.with(10, text);
            Check.due("run(1000)", x.run(1000), 1000);
            Check.due("text(999, 0)", x.text(999, 0) >= '0', true);
            Check.due("text(1000, 0)", x.text(1000, 0), -1);
            Check.due("run(999)", x.run(999), 999);
            Check.due("text(999, 0)", x.text(999, 0), -1);
        }
        LetterSums y = Check.found(10, "abcd=abcd", 1000, 1000);
        Check.due("written(999)", Check.written(y, 999), "2976=2976");
    }

    private static void firstOnes() {
        LetterSums x = Check.with(10, "abcdefgh=abcdefgh");
        int[] mosts = {1, 7, 1000};
        for (int most : mosts) {
            Check.due("run(" + most + ")", x.run(most), most);
            Check.due("written(0)", Check.written(x, 0), "10234567=10234567");
        }
        Check.due("written(6)", Check.written(x, 6), "10234586=10234586");
        LetterSums y = Check.found(10, "z-a=1", 1, 1);
        Check.due("written(0)", Check.written(y, 0), "1-0=1");
    }

    private static void mostBelow() {
        int[] mosts = {-1, -2, -1000, Integer.MIN_VALUE};
        for (int most : mosts) {
            Check.due("run(" + most + ")", Check.with(10, "a=1").run(most), -1);
            Check.due("run(" + most + ") without a text", new LetterSums(10).run(most), -1);
        }
    }

    private static void mostAbove() {
        int[] mosts = {1001, 1002, 65536, Integer.MAX_VALUE};
        for (int most : mosts) {
            Check.due("run(" + most + ")", Check.with(10, "a=1").run(most), -1);
            Check.due("run(" + most + ") without a text", new LetterSums(10).run(most), -1);
        }
    }

    private static void refusalDoesNothing() {
        LetterSums x = Check.found(10, "a+a=b", 2, 2);
        int[] mosts = {-1, 1001, Integer.MIN_VALUE, Integer.MAX_VALUE};
        for (int most : mosts) {
            Check.due("run(" + most + ")", x.run(most), -1);
            Check.due("digit(1, b) stays", x.digit(1, 'b'), 4);
            Check.due("digit(2, b)", x.digit(2, 'b'), -1);
            Check.due("letters()", x.letters(), 2);
            LetterSums y = Check.with(10, "a=1");
            Check.due("run(" + most + ")", y.run(most), -1);
            Check.nothingKept(y);
        }
    }

    private static void withoutText() {
        int[] mosts = {0, 1, 999, 1000};
        for (int most : mosts) {
            LetterSums x = new LetterSums(10);
            Check.due("run(" + most + ")", x.run(most), 0);
            Check.type(x, "a=1");
            Check.due("run(" + most + "), nothing read", x.run(most), 0);
            Check.nothingKept(x);
        }
    }

    private static void runsAgain() {
        LetterSums x = Check.with(10, "abcdefgh=abcdefgh");
        int[] mosts = {3, 1000, 0, 1, 999, 7};
        for (int most : mosts) {
            Check.due("run(" + most + ")", x.run(most), most);
            Check.due("text(most, 0)", x.text(most, 0), -1);
            Check.due("text(most - 1, 0)", x.text(most - 1, 0) > 0, most > 0);
        }
    }
}
