/** Promise 2: bytes 0 to 255 are taken, 80 of them; all else does nothing. */
public final class Promise02UnitTest {
    public static void main(String[] args) {
        takesBytesAlone();
        refusedBytesLeaveNoTrace();
        takesEighty();
        typingChangesNothingRead();
        Check.end();
    }

    private static void takesBytesAlone() {
        for (int u = -300; u <= 600; u++) {
            Check.due("unit(" + u + ")", new LetterSums(10).unit(u), u >= 0 && u <= 255);
        }
        Check.due("unit of the least", new LetterSums(10).unit(Integer.MIN_VALUE), false);
        Check.due("unit of the most", new LetterSums(10).unit(Integer.MAX_VALUE), false);
        Check.due("unit of a letter and 256", new LetterSums(10).unit(97 + 256), false);
    }

    private static void refusedBytesLeaveNoTrace() {
        LetterSums x = new LetterSums(10);
        Check.type(x, "a");
        Check.due("unit(256)", x.unit(256), false);
        Check.type(x, "=");
        Check.due("unit(-1)", x.unit(-1), false);
        Check.type(x, "1");
        Check.due("read()", x.read(), 2);
        Check.due("run(9)", x.run(9), 1);
        Check.due("written", Check.written(x, 0), "1=1");
    }

    private static void takesEighty() {
        LetterSums x = new LetterSums(10);
        for (int time = 0; time < 2; time++) {
            String text = "a=1" + "+".repeat(77);
            Check.type(x, text);
            Check.due("unit(97), the 81st", x.unit(97), false);
            Check.due("unit(300), the 81st", x.unit(300), false);
            Check.due("read()", x.read(), -1 - 4);
            Check.due("unit(97) behind read()", x.unit(97), true);
            Check.due("read()", x.read(), -1 - 1);
        }
        // The longest text that may be there has 71 bytes.
        String word = "abcdefgh";
        String longest = word + "-" + word + "+" + word + "-" + word + "=" + word + "-" + word + "+" + word + "-" + word;
        Check.due("read()", Check.read(x, longest), 8);
        Check.due("run(2)", x.run(2), 2);
        Check.due("text(0, 70)", x.text(0, 70), '7');
        Check.due("text(0, 71)", x.text(0, 71), -1);
    }

    private static void typingChangesNothingRead() {
        LetterSums x = Check.with(10, "a=7");
        Check.due("run(9)", x.run(9), 1);
        Check.type(x, "b=c");
        Check.due("letters()", x.letters(), 1);
        Check.due("letter(0)", x.letter(0), 'a');
        Check.due("digit(0, a)", x.digit(0, 'a'), 7);
        Check.due("written", Check.written(x, 0), "7=7");
        Check.due("run(9)", x.run(9), 1);
    }
}
