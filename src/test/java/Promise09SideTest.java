/** Promise 9: what the words on a side come to. */
public final class Promise09SideTest {
    public static void main(String[] args) {
        comesTo(10, "send+more=money", 10652);
        comesTo(10, "99999999+99999999+99999999+99999999=99999999+99999999+99999999+99999999", 399999996);
        comesTo(10, "99999999+9999999+1=11000000-1+a+98999999", 109999999);
        comesTo(10, "1-2=1-2", -1);
        comesTo(10, "1-99999999=2-99999999-1", -99999998);
        comesTo(10, "a-9=1-9", -8);
        comesTo(10, "0=0", 0);
        comesTo(2, "1010=1010", 10);
        comesTo(8, "777=a77", 511);
        comesTo(9, "10-1=a", 8);
        bothSidesOfEachAnswer();
        refusesWhatIsNotThere();
        Check.end();
    }

    private static void comesTo(int base, String text, long want) {
        LetterSums x = Check.with(base, text);
        Check.due("run(1) of " + text, x.run(1), 1);
        Check.due("side(0, 0) of " + text, x.side(0, 0), want);
        Check.due("side(0, 1) of " + text, x.side(0, 1), want);
    }

    private static void bothSidesOfEachAnswer() {
        LetterSums x = Check.with(10, "a-b=c-d-e");
        int found = x.run(1000);
        Check.due("found some", found > 100, true);
        boolean below = false;
        for (int k = 0; k < found && k < 100; k++) {
            int left = x.digit(k, 'a') - x.digit(k, 'b');
            Check.due("side(" + k + ", 0)", x.side(k, 0), left);
            Check.due("side(" + k + ", 1)", x.side(k, 1), x.digit(k, 'c') - x.digit(k, 'd') - x.digit(k, 'e'));
            below |= left < -1;
        }
        Check.due("some below -1", below, true);
    }

    private static void refusesWhatIsNotThere() {
        LetterSums x = Check.with(10, "a=5");
        Check.due("side(0, 0) ahead of run", x.side(0, 0), -1);
        Check.due("run(9)", x.run(9), 1);
        int[] others = {2, -1, 3, Integer.MIN_VALUE, Integer.MAX_VALUE};
        for (int other : others) {
            Check.due("side(0, " + other + ")", x.side(0, other), -1);
            Check.due("side(" + other + ", 0)", x.side(other, 0), -1);
        }
        Check.due("side(1, 1)", x.side(1, 1), -1);
        Check.due("side(0, 1)", x.side(0, 1), 5);
    }
}
