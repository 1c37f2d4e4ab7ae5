/** What the tests share: typing a text, comparing answers, ending with the right exit code. */
final class Check {
    private static int wrong = 0;
    private static int made = 0;

    private Check() {
    }

    /** Runs one test by its name: the promise and the words of the document that it holds the class to. */
    static void test(String name, Runnable body) {
        int wrongAhead = wrong;
        int madeAhead = made;
        try {
            body.run();
        } catch (RuntimeException e) {
            wrong++;
            System.out.println("thrown: " + e);
        }
        if (made == madeAhead && wrong == wrongAhead) {
            wrong++;
            System.out.println("nothing was looked at");
        }
        System.out.println((wrong == wrongAhead ? "  ok: " : "  FAILED: ") + name);
    }

    static void due(String call, long got, long want) {
        made++;
        if (got != want) {
            wrong++;
            System.out.println(call + " answered " + got + ", due is " + want);
        }
    }

    static void due(String call, boolean got, boolean want) {
        due(call, got ? 1 : 0, want ? 1 : 0);
    }

    static void due(String call, String got, String want) {
        made++;
        if (!got.equals(want)) {
            wrong++;
            System.out.println(call + " answered " + got + ", due is " + want);
        }
    }

    static void type(LetterSums x, String text) {
        for (int i = 0; i < text.length(); i++) {
            due("unit(" + (int) text.charAt(i) + ")", x.unit(text.charAt(i)), true);
        }
    }

    /** Types a text and reads it. */
    static int read(LetterSums x, String text) {
        type(x, text);
        return x.read();
    }

    /** A new object that has read a text. */
    static LetterSums with(int base, String text) {
        LetterSums x = new LetterSums(base);
        int words = text.split("[-+=]").length;
        due("read() of " + text, read(x, text), words);
        return x;
    }

    /** A new object that has read a text and kept its first answers, as many as are due. */
    static LetterSums found(int base, String text, int most, int want) {
        LetterSums x = with(base, text);
        due("run(" + most + ") of " + text, x.run(most), want);
        return x;
    }

    /** Nothing is kept: each call that tells of answer 0 says so. */
    static void nothingKept(LetterSums x) {
        due("digit(0, a)", x.digit(0, 'a'), -1);
        due("side(0, 0)", x.side(0, 0), -1);
        due("side(0, 1)", x.side(0, 1), -1);
        due("carry(0, 0)", x.carry(0, 0), -1);
        due("text(0, 0)", x.text(0, 0), -1);
        due("fixed()", x.fixed(), 0);
    }

    /** Answer k as text(k, i) writes it out, up to its first -1. */
    static String written(LetterSums x, int k) {
        StringBuilder all = new StringBuilder();
        for (int i = 0; i < 80 && x.text(k, i) >= 0; i++) {
            all.append((char) x.text(k, i));
        }
        return all.toString();
    }

    static void end() {
        System.out.println(made + " answers looked at, " + wrong + " not as due");
        if (wrong != 0 || made == 0) {
            System.exit(1);
        }
    }
}
