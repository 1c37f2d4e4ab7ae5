/** Promise 11: answers written out. */
public final class Promise11TextTest {
    public static void main(String[] args) {
        writes(10, "send+more=money", "9567+1085=10652");
        writes(10, "a1-1=20", "21-1=20");
        writes(10, "1+1=2", "1+1=2");
        writes(10, "99999999-1=9999999a", "99999999-1=99999998");
        writes(10, "z-y=a-b", "2-3=0-1");
        writes(2, "1a-b=1", "10-1=1");
        writesEachAnswer();
        refusesWhatIsNotThere();
        Check.end();
    }

    private static void writes(int base, String text, String want) {
        LetterSums x = Check.with(base, text);
        Check.due("run(1) of " + text, x.run(1), 1);
        Check.due(text + " written out", Check.written(x, 0), want);
        Check.due("text(0, behind) of " + text, x.text(0, text.length()), -1);
    }

    private static void writesEachAnswer() {
        LetterSums x = Check.with(10, "a+a=b");
        String[] want = {"1+1=2", "2+2=4", "3+3=6", "4+4=8"};
        Check.due("run(1000)", x.run(1000), want.length);
        for (int k = 0; k < want.length; k++) {
            Check.due("answer " + k + " written out", Check.written(x, k), want[k]);
        }
    }

    private static void refusesWhatIsNotThere() {
        LetterSums x = Check.with(10, "a=5");
        Check.due("text(0, 0) ahead of run", x.text(0, 0), -1);
        Check.due("run(9)", x.run(9), 1);
        int[] others = {-1, 3, 4, 79, 80, 81, Integer.MIN_VALUE, Integer.MAX_VALUE};
        for (int other : others) {
            Check.due("text(0, " + other + ")", x.text(0, other), -1);
            Check.due("text(" + other + ", 0)", x.text(other, 0), -1);
        }
        Check.due("text(1, 0)", x.text(1, 0), -1);
    }
}
