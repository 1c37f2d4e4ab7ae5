/** Promise 9: what the words on a side come to. */
public final class Promise09SideTest {
    public static void main(String[] args) {
        Check.test("Promise 9: \"What the words on a side come to\"", Promise09SideTest::comesTo);
        Check.test("Promise 9: in each base", Promise09SideTest::inEachBase);
        Check.test("Promise 9: \"those with - taken away\", ahead and behind, in each answer",
                Promise09SideTest::takenAway);
        Check.test("Promise 9: \"It may be -1 or less of itself\"", Promise09SideTest::belowZero);
        Check.test("Promise 9: the greatest and the least that a side can come to",
                Promise09SideTest::greatestAndLeast);
        Check.test("Promise 9: \"-1 when there is no such answer\"", Promise09SideTest::noSuchAnswer);
        Check.test("Promise 9: \"-1 when there is no such .. side\"", Promise09SideTest::noSuchSide);
        Check.end();
    }

    private static void sides(int base, String text, long want) {
        LetterSums x = Check.found(base, text, 1, 1);
        Check.due("side(0, 0) of " + text, x.side(0, 0), want);
        Check.due("side(0, 1) of " + text, x.side(0, 1), want);
    }

    private static void comesTo() {
        sides(10, "send+more=money", 10652);
        sides(10, "0=0", 0);
        sides(10, "a=0", 0);
        sides(10, "1+2+3+4=10", 10);
        sides(10, "10=1+2+3+4", 10);
        sides(10, "1a-b=9+2", 11);
        LetterSums x = Check.found(10, "a+a=b", 9, 4);
        for (int k = 0; k < 4; k++) {
            Check.due("side(" + k + ", 0)", x.side(k, 0), 2 * k + 2);
            Check.due("side(" + k + ", 1)", x.side(k, 1), 2 * k + 2);
        }
    }

    private static void inEachBase() {
        for (int base = 2; base <= 10; base++) {
            sides(base, "10=10", base);
            sides(base, "10-1=a", base - 1);
            sides(base, "10000000=10000000", Math.round(Math.pow(base, 7)));
            String last = String.valueOf(base - 1).repeat(8);
            sides(base, last + "=" + last, Math.round(Math.pow(base, 8)) - 1);
        }
        sides(2, "1010=1010", 10);
        sides(8, "777=a77", 511);
    }

    private static void takenAway() {
        sides(10, "9-2-3=4", 4);
        sides(10, "4=9-2-3", 4);
        sides(10, "9-2+3=10", 10);
        sides(10, "20-12+3-1=9+2-1", 10);
        LetterSums x = Check.found(10, "a-b=c-d-e", 1000, 1000);
        for (int k = 0; k < 1000; k += 7) {
            int ahead = x.digit(k, 'a') - x.digit(k, 'b');
            int behind = x.digit(k, 'c') - x.digit(k, 'd') - x.digit(k, 'e');
            Check.due("side(" + k + ", 0)", x.side(k, 0), ahead);
            Check.due("side(" + k + ", 1)", x.side(k, 1), behind);
        }
    }

    private static void belowZero() {
        sides(10, "1-2=1-2", -1);
        sides(10, "1-3=2-4", -2);
        sides(10, "a-9=1-9", -8);
        sides(10, "0-99999999=0-99999999", -99999999);
        sides(2, "0-11111111=1-100000-11100000", -255);
    }

    private static void greatestAndLeast() {
        String nines = "99999999";
        String four = nines + "+" + nines + "+" + nines + "+" + nines;
        sides(10, four + "=" + four, 399999996);
        String three = "0-" + nines + "-" + nines + "-" + nines;
        sides(10, three + "=" + three, -299999997);
        sides(10, "99999999+9999999+1=11000000-1+a+98999999", 109999999);
        sides(10, "1-99999999=2-99999999-1", -99999998);
    }

    private static void noSuchAnswer() {
        Check.due("side(0, 0), no text", new LetterSums(10).side(0, 0), -1);
        LetterSums x = Check.with(10, "a=5");
        Check.due("side(0, 0), not run", x.side(0, 0), -1);
        Check.due("side(0, 1), not run", x.side(0, 1), -1);
        Check.due("run(9)", x.run(9), 1);
        int[] answers = {-1, 1, 2, 999, 1000, Integer.MIN_VALUE, Integer.MAX_VALUE};
        for (int k : answers) {
            Check.due("side(" + k + ", 0)", x.side(k, 0), -1);
            Check.due("side(" + k + ", 1)", x.side(k, 1), -1);
        }
        Check.due("run(0)", x.run(0), 0);
        Check.due("side(0, 0), none kept", x.side(0, 0), -1);
        LetterSums y = Check.found(10, "abc=abc", 647, 647);
        Check.due("side(646, 1)", y.side(646, 1), 986);
        Check.due("side(647, 1)", y.side(647, 1), -1);
    }

    private static void noSuchSide() {
        LetterSums x = Check.found(10, "a=5", 9, 1);
        int[] sides = {-1, 2, 3, 256, 257, Integer.MIN_VALUE, Integer.MAX_VALUE};
        for (int side : sides) {
            Check.due("side(0, " + side + ")", x.side(0, side), -1);
            Check.due("side(1, " + side + ")", x.side(1, side), -1);
        }
        Check.due("side(0, 1)", x.side(0, 1), 5);
    }
}
