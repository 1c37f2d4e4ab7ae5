/** Promise 11: answers written out. */
public final class Promise11TextTest {
    public static void main(String[] args) {
        Check.test("Promise 11: \"written out as the text is, digits for letters\"", Promise11TextTest::writtenOut);
        Check.test("Promise 11: each answer, the last one kept too", Promise11TextTest::eachAnswer);
        Check.test("Promise 11: digits from 0 to 9 for letters", Promise11TextTest::allDigits);
        Check.test("Promise 11: \"-1 when there is none such\": i below 0", Promise11TextTest::bytesBelow);
        Check.test("Promise 11: \"-1 when there is none such\": i behind the text's end",
                Promise11TextTest::bytesAbove);
        Check.test("Promise 11: \"-1 when there is none such\": no answer k", Promise11TextTest::otherAnswers);
        Check.test("Promise 11: of a longer text read ahead nothing shows", Promise11TextTest::shorterText);
        Check.end();
    }

    private static void writes(int base, String text, String want) {
        LetterSums x = Check.found(base, text, 1, 1);
        Check.due(text + " written out", Check.written(x, 0), want);
    }

    private static void writtenOut() {
        writes(10, "send+more=money", "9567+1085=10652");
        writes(10, "a1-1=20", "21-1=20");
        writes(10, "1+1=2", "1+1=2");
        writes(10, "99999999-1=9999999a", "99999999-1=99999998");
        writes(10, "z-y=a-b", "2-3=0-1");
        writes(2, "1a-b=1", "10-1=1");
    }

    private static void eachAnswer() {
        LetterSums x = Check.found(10, "a+a=b", 1000, 4);
        String[] want = {"1+1=2", "2+2=4", "3+3=6", "4+4=8"};
        for (int k = 0; k < want.length; k++) {
            Check.due("answer " + k + " written out", Check.written(x, k), want[k]);
        }
        LetterSums y = Check.found(10, "abcdefgh=abcdefgh", 1000, 1000);
        Check.due("answer 0 written out", Check.written(y, 0), "10234567=10234567");
        Check.due("answer 999 written out", Check.written(y, 999).length(), 17);
    }

    private static void allDigits() {
        LetterSums x = Check.found(10, "a=a", 1000, 10);
        for (int k = 0; k < 10; k++) {
            Check.due("text(" + k + ", 0)", x.text(k, 0), 48 + k);
            Check.due("text(" + k + ", 1)", x.text(k, 1), 61);
            Check.due("text(" + k + ", 2)", x.text(k, 2), 48 + k);
        }
    }

    private static void bytesBelow() {
        LetterSums x = Check.found(10, "a=5", 9, 1);
        int[] places = {-1, -2, -80, Integer.MIN_VALUE};
        for (int i : places) {
            Check.due("text(0, " + i + ")", x.text(0, i), -1);
        }
        Check.due("text(0, 0)", x.text(0, 0), '5');
    }

    private static void bytesAbove() {
        String[] texts = {"a=5", "a+1=5", "a+99999999+99999999+99999999=99999999+99999999+99999999+5"};
        for (String text : texts) {
            LetterSums x = Check.found(10, text, 9, 1);
            Check.due("text(0, last)", x.text(0, text.length() - 1), '5');
            int[] places = {text.length(), text.length() + 1, 79, 80, 81, 255, Integer.MAX_VALUE};
            for (int i : places) {
                Check.due("text(0, " + i + ")", x.text(0, i), -1);
            }
        }
        // The longest text: 71 bytes.
        String side = "99999999+99999999+99999999+99999999";
        LetterSums y = Check.found(10, side + "=" + side, 9, 1);
        Check.due("text(0, 70)", y.text(0, 70), '9');
        Check.due("text(0, 71)", y.text(0, 71), -1);
    }

    private static void otherAnswers() {
        Check.due("text(0, 0), no text", new LetterSums(10).text(0, 0), -1);
        LetterSums x = Check.with(10, "a+a=b");
        Check.due("text(0, 0), not run", x.text(0, 0), -1);
        Check.due("text(0, 1), not run", x.text(0, 1), -1);
        Check.due("run(3)", x.run(3), 3);
        int[] answers = {3, 4, 999, 1000, -1, Integer.MIN_VALUE, Integer.MAX_VALUE};
        for (int k : answers) {
            Check.due("text(" + k + ", 0)", x.text(k, 0), -1);
            Check.due("text(" + k + ", 1)", x.text(k, 1), -1);
        }
        Check.due("text(2, 0)", x.text(2, 0), '3');
    }

    private static void shorterText() {
        LetterSums x = Check.found(10, "send+more=money", 9, 1);
        Check.due("read()", Check.read(x, "b=4"), 2);
        Check.due("run(9)", x.run(9), 1);
        Check.due("written out", Check.written(x, 0), "4=4");
        Check.due("text(0, 3)", x.text(0, 3), -1);
    }
}
