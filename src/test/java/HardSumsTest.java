import java.util.Random;

/** Sums of eight letters, held against a trial of all digits. */
public final class HardSumsTest {
    private static final int LETTERS = 8;

    public static void main(String[] args) {
        String[] texts = {"abcd+efgh=ahgfe", "hgfedcba+1234=65432100", "abcdefgh-hgfedcba=0-1", "a+b+c+d=e+f+g+h",
            "ab+cd=ef+gh", "abcdefgh+bcdefgha=cdefghab", "a+b+c+d+e+f+g=h", "abcdefgh=abcdefgh",
            "aaaa+bbbb-cccc=dddd+eeee-ffff+gggg-hhhh", "abcdefgh-bcdefgha-cdefghab=1-defghabc"};
        for (String text : texts) {
            for (int base = 7; base <= 10; base++) {
                compare(base, text);
            }
        }
        Random random = new Random(8);
        for (int i = 0; i < 30; i++) {
            compare(8 + random.nextInt(3), shuffled(random));
        }
        searchesAgainAndAgain();
        Check.end();
    }

    private static String shuffled(Random random) {
        StringBuilder text = new StringBuilder("abcdefghabcdefghabcd");
        for (int i = text.length() - 1; i > 0; i--) {
            int j = random.nextInt(i + 1);
            char c = text.charAt(i);
            text.setCharAt(i, text.charAt(j));
            text.setCharAt(j, c);
        }
        int longest = 1 + random.nextInt(4);
        text.insert(20 - longest, '=').insert(15 - longest, '+');
        return text.insert(8 + random.nextInt(2), '-').insert(4, '+').toString();
    }

    private static void compare(int base, String text) {
        LetterSums x = Check.with(base, text);
        for (int barred = 1; barred >= 0; barred--) {
            x.bar(barred == 1);
            Trial trial = new Trial(base, text, barred == 1);
            Check.due("base " + base + ": run(1000) of " + text, x.run(1000), trial.count);
            Check.due("base " + base + ": one() of " + text, x.one(), trial.count == 1);
            for (int k = 0; k < trial.count; k++) {
                for (int letter = 0; letter < LETTERS; letter++) {
                    Check.due(text + ": digit(" + k + ", " + (char) ('a' + letter) + ")",
                            x.digit(k, 'a' + letter), trial.found[k][letter]);
                }
            }
        }
    }

    /** As many searches as one object's 512 calls have room for; each must find the same. */
    private static void searchesAgainAndAgain() {
        LetterSums x = new LetterSums(10);
        for (int calls = 0; calls + 20 <= 512; calls += 20) {
            Check.due("read()", Check.read(x, "a+b+c+d+e+f+g=h"), 8);
            Check.due("run(1000), too few digits to reach it", x.run(1000), 0);
            x.bar(false);
            Check.due("run(1000)", x.run(1000), 0);
        }
    }

    /** Tries all digits for a to h, in order. */
    private static final class Trial {
        private final int base;
        private final boolean barred;
        private final String[] words;
        private final int[] signs;
        private final int[][] found = new int[1000][];
        private final int[] digits = new int[LETTERS];
        private int count = 0;

        Trial(int base, String text, boolean barred) {
            this.base = base;
            this.barred = barred;
            words = text.split("[-+=]");
            signs = new int[words.length];
            int at = 0;
            for (int w = 0; w < words.length; w++) {
                boolean minus = at > 0 && text.charAt(at - 1) == '-';
                boolean behind = at > text.indexOf('=');
                signs[w] = minus == behind ? 1 : -1;
                at += words[w].length() + 1;
            }
            give(0, 0);
        }

        private void give(int letter, int used) {
            if (letter == LETTERS) {
                if (holds()) {
                    found[count] = digits.clone();
                    count++;
                }
                return;
            }
            for (int d = 0; d < base && count < found.length; d++) {
                if ((used >> d & 1) == 0) {
                    digits[letter] = d;
                    give(letter + 1, used | 1 << d);
                }
            }
        }

        private boolean holds() {
            long all = 0;
            for (int w = 0; w < words.length; w++) {
                long value = 0;
                for (int i = 0; i < words[w].length(); i++) {
                    char c = words[w].charAt(i);
                    int digit = c >= 'a' ? digits[c - 'a'] : c - '0';
                    if (barred && i == 0 && digit == 0 && words[w].length() > 1) {
                        return false;
                    }
                    value = value * base + digit;
                }
                all += signs[w] * value;
            }
            return all == 0;
        }
    }
}
