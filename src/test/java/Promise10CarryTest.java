/** Promise 10: the carries, column by column. */
public final class Promise10CarryTest {
    public static void main(String[] args) {
        carries(10, "send+more=money", "110100000");
        carries(10, "9+9+9+9+9+9+9=63", "600000000");
        carries(10, "9999999+1=a0000000", "111111100");
        carries(10, "99999999=99999999", "000000000");
        carries(10, "5+95+995=1095", "111000000");
        carries(10, "95+5+900=1000", "111000000");
        carries(10, "49999999+49999999=99999998", "111111100");
        carries(8, "7+77=106", "110000000");
        carries(2, "1+1+1+1+1+1+1=111", "310000000");
        carries(2, "11+11+11=1001", "121000000");
        carries(10, "0=0", "000000000");
        carriesOfEachAnswer();
        hasNone("a-b=c");
        hasNone("a=b-c");
        hasNone("a=b+c");
        hasNone("a+b=c+d");
        hasNone("a-b=c+d");
        refusesWhatIsNotThere();
        Check.end();
    }

    /** Looks at the carries of the first answer, column 0 first. */
    private static void carries(int base, String text, String want) {
        LetterSums x = Check.with(base, text);
        Check.due("run(1) of " + text, x.run(1), 1);
        for (int c = 0; c <= 8; c++) {
            Check.due("carry(0, " + c + ") of " + text, x.carry(0, c), want.charAt(c) - '0');
        }
    }

    private static void carriesOfEachAnswer() {
        LetterSums x = Check.with(8, "ab+cd=1ef");
        int found = x.run(1000);
        Check.due("found some", found > 0, true);
        for (int k = 0; k < found; k++) {
            int last = x.digit(k, 'b') + x.digit(k, 'd');
            int first = x.digit(k, 'a') + x.digit(k, 'c');
            Check.due("carry(" + k + ", 0)", x.carry(k, 0), last / 8);
            Check.due("carry(" + k + ", 1)", x.carry(k, 1), (first + last / 8) / 8);
        }
    }

    private static void hasNone(String text) {
        LetterSums x = Check.with(10, text);
        Check.due("run(1) of " + text, x.run(1), 1);
        for (int c = -1; c <= 9; c++) {
            Check.due("carry(0, " + c + ") of " + text, x.carry(0, c), -1);
        }
    }

    private static void refusesWhatIsNotThere() {
        LetterSums x = Check.with(10, "a+b=c0");
        Check.due("carry(0, 0) ahead of run", x.carry(0, 0), -1);
        int found = x.run(1000);
        Check.due("carry(0, 0)", x.carry(0, 0), 1);
        Check.due("carry(found - 1, 0)", x.carry(found - 1, 0), 1);
        int[] columns = {-1, 9, 10, 31, 32, Integer.MIN_VALUE, Integer.MAX_VALUE};
        for (int c : columns) {
            Check.due("carry(0, " + c + ")", x.carry(0, c), -1);
        }
        int[] answers = {found, -1, 1000, Integer.MIN_VALUE, Integer.MAX_VALUE};
        for (int k : answers) {
            Check.due("carry(" + k + ", 0)", x.carry(k, 0), -1);
        }
        Check.due("carry without a text", new LetterSums(10).carry(0, 0), -1);
    }
}
