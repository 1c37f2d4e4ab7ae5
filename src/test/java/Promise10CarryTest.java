/** Promise 10: the carries, column by column. */
public final class Promise10CarryTest {
    public static void main(String[] args) {
        Check.test("Promise 10: A CARRY, \"what goes to column c + 1\"", Promise10CarryTest::columnByColumn);
        Check.test("Promise 10: A CARRY, \"divided by the base\"", Promise10CarryTest::inEachBase);
        Check.test("Promise 10: A CARRY, \"all, if it has not so many\"", Promise10CarryTest::shortWords);
        Check.test("Promise 10: A CARRY, in each answer", Promise10CarryTest::eachAnswer);
        Check.test("Promise 10: \"column c (0 to 8)\": 7 and 8 of the longest words", Promise10CarryTest::lastColumns);
        Check.test("Promise 10: \"-1 when there is none such\": c below 0 or above 8",
                Promise10CarryTest::otherColumns);
        Check.test("Promise 10: \"-1 when there is none such\": k below 0, or not kept",
                Promise10CarryTest::otherAnswers);
        Check.test("Promise 10: \"or the text has none\": a - ahead of the =", Promise10CarryTest::takenAwayAhead);
        Check.test("Promise 10: \"or the text has none\": a - behind the =", Promise10CarryTest::takenAwayBehind);
        Check.test("Promise 10: \"or the text has none\": two words behind the =", Promise10CarryTest::twoBehind);
        Check.test("Promise 10: one word alone ahead of the = has carries", Promise10CarryTest::oneAhead);
        Check.test("Promise 10: whether there are carries goes by the text last read",
                Promise10CarryTest::followsTheText);
        Check.end();
    }

    /** Looks at the carries of the first answer, column 0 first. */
    private static void carries(int base, String text, String want) {
        LetterSums x = Check.found(base, text, 1, 1);
        for (int c = 0; c <= 8; c++) {
            Check.due("carry(0, " + c + ") of " + text, x.carry(0, c), want.charAt(c) - '0');
        }
    }

    private static void columnByColumn() {
        carries(10, "send+more=money", "110100000");
        carries(10, "9+9+9+9+9+9+9=63", "600000000");
        carries(10, "99+99+99+99+99+99+99=693", "660000000");
        carries(10, "5+4=9", "000000000");
        carries(10, "5+5=10", "100000000");
        // A column's carry goes on through the next ones.
        carries(10, "9999+1=10000", "111100000");
        carries(10, "0=0", "000000000");
    }

    private static void inEachBase() {
        for (int base = 2; base <= 10; base++) {
            int last = base - 1;
            carries(base, last + "+1=10", "100000000");
            carries(base, last + "" + last + "+1=100", "110000000");
            carries(base, "1+" + (last - 1) + "=a", "000000000");
        }
        carries(8, "7+77=106", "110000000");
        carries(2, "1+1+1+1+1+1+1=111", "310000000");
        carries(2, "11+11+11=1001", "121000000");
    }

    private static void shortWords() {
        carries(10, "5+95+995=1095", "111000000");
        carries(10, "95+5+900=1000", "111000000");
        carries(10, "9999999+1=a0000000", "111111100");
        // 19 and 1: of the short word all its signs count in each column.
        carries(10, "19+1+980=1000", "111000000");
        carries(2, "1+111=1000", "111000000");
    }

    private static void eachAnswer() {
        LetterSums x = Check.with(8, "ab+cd=1ef");
        int found = x.run(1000);
        Check.due("found some", found > 10, true);
        for (int k = 0; k < found; k++) {
            int last = x.digit(k, 'b') + x.digit(k, 'd');
            int first = x.digit(k, 'a') + x.digit(k, 'c');
            Check.due("carry(" + k + ", 0)", x.carry(k, 0), last / 8);
            Check.due("carry(" + k + ", 1)", x.carry(k, 1), (first + last / 8) / 8);
            Check.due("carry(" + k + ", 2)", x.carry(k, 2), 0);
        }
    }

    private static void lastColumns() {
        carries(10, "49999999+49999999=99999998", "111111100");
        carries(10, "99999999=99999999", "000000000");
        // No word behind the = has a ninth sign: so column 7 carries nothing in an answer, and 6 may carry most.
        carries(10, "9999999+9999999+9999999+9999999+9999999+9999999+9999999=69999993", "666666600");
        carries(2, "1111111+1=10000000", "111111100");
    }

    private static void otherColumns() {
        LetterSums x = Check.found(10, "a+b=10", 9, 8);
        Check.due("carry(0, 0)", x.carry(0, 0), 1);
        Check.due("carry(0, 8)", x.carry(0, 8), 0);
        int[] columns = {-1, -2, 9, 10, 31, 32, 64, Integer.MIN_VALUE, Integer.MAX_VALUE};
        for (int c : columns) {
            Check.due("carry(0, " + c + ")", x.carry(0, c), -1);
        }
    }

    private static void otherAnswers() {
        Check.due("carry(0, 0), no text", new LetterSums(10).carry(0, 0), -1);
        LetterSums x = Check.with(10, "a+b=10");
        Check.due("carry(0, 0), not run", x.carry(0, 0), -1);
        Check.due("run(9)", x.run(9), 8);
        Check.due("carry(7, 0)", x.carry(7, 0), 1);
        int[] answers = {8, 9, 999, 1000, -1, Integer.MIN_VALUE, Integer.MAX_VALUE};
        for (int k : answers) {
            Check.due("carry(" + k + ", 0)", x.carry(k, 0), -1);
        }
        Check.due("run(3)", x.run(3), 3);
        Check.due("carry(2, 0)", x.carry(2, 0), 1);
        Check.due("carry(3, 0)", x.carry(3, 0), -1);
    }

    private static void hasNone(String text) {
        LetterSums x = Check.found(10, text, 1, 1);
        for (int c = -1; c <= 9; c++) {
            Check.due("carry(0, " + c + ") of " + text, x.carry(0, c), -1);
        }
    }

    private static void takenAwayAhead() {
        hasNone("a-b=c");
        hasNone("5+5-0=10");
        hasNone("5-0+5=10");
        hasNone("5+5+5+5+5+5-0=30");
    }

    // A - behind the = means two words there too: such a text has no carries by either condition.
    private static void takenAwayBehind() {
        hasNone("a=b-c");
        hasNone("5+5=10-0");
        hasNone("5-5=0-0");
        hasNone("5+5=10+0-0");
    }

    private static void twoBehind() {
        hasNone("a=b+c");
        hasNone("a+b=c+d");
        hasNone("5+5=10+0");
        hasNone("7=1+1+1+1+1+1+1");
    }

    private static void oneAhead() {
        carries(10, "a=5", "000000000");
        carries(10, "98=98", "000000000");
    }

    private static void followsTheText() {
        LetterSums x = Check.found(10, "5+5=10-0", 1, 1);
        Check.due("carry(0, 0)", x.carry(0, 0), -1);
        Check.due("read()", Check.read(x, "5+5=10"), 3);
        Check.due("run(1)", x.run(1), 1);
        Check.due("carry(0, 0)", x.carry(0, 0), 1);
        Check.due("read(), refused", Check.read(x, "5-5="), -5);
        Check.due("carry(0, 0)", x.carry(0, 0), 1);
        Check.due("read()", Check.read(x, "5=5+0"), 3);
        Check.due("run(1)", x.run(1), 1);
        Check.due("carry(0, 0)", x.carry(0, 0), -1);
    }
}
