import java.util.Arrays;

/** Reads a sum in letters, finds the digits that make it true, and tells of them. */
public final class LetterSums {
    private static final int NONE = -1;
    private static final int LEAST_BASE = 2;
    private static final int MOST_BASE = 10;
    private static final int MOST_BYTES = 80;
    private static final int MOST_WORDS = 8;
    private static final int MOST_SIGNS = 8;
    private static final int MOST_LETTERS = 8;
    private static final int MOST_ANSWERS = 1000;
    private static final int LAST_COLUMN = 8;
    private static final int ALPHABET = 26;

    private static final int PLUS = 43;
    private static final int MINUS = 45;
    private static final int EQUALS = 61;
    private static final int DIGIT_ZERO = 48;
    private static final int DIGIT_NINE = 57;
    private static final int LETTER_A = 97;
    private static final int LETTER_Z = 122;

    private final int[] typed = new int[MOST_BYTES];
    private int typedCount = 0;
    private final Grammar grammar;
    private final Sum sum;
    private final Search search;
    // One list for each way of barring: going back and forth between the two then costs no new search.
    private final Answers barredAnswers = new Answers();
    private final Answers freeAnswers = new Answers();
    private boolean barred = true;
    private int kept = 0;

    public LetterSums(int base) {
        int held = Math.max(LEAST_BASE, Math.min(MOST_BASE, base));
        grammar = new Grammar(held);
        sum = new Sum(held);
        search = new Search(held);
    }

    public boolean unit(int u) {
        if (u < 0 || u > 255 || typedCount >= typed.length) {
            return false;
        }
        typed[typedCount] = u;
        typedCount++;
        return true;
    }

    public int read() {
        int count = typedCount;
        typedCount = 0;
        int wrong = grammar.firstWrong(typed, count);
        if (wrong != NONE) {
            return -1 - wrong;
        }
        sum.take(typed, count);
        barredAnswers.forget();
        freeAnswers.forget();
        kept = 0;
        return sum.words;
    }

    public void bar(boolean on) {
        barred = on;
        kept = 0;
    }

    public int letters() {
        return sum.letterCount;
    }

    public int letter(int k) {
        return sum.letterAt(k);
    }

    public int run(int most) {
        if (most < 0 || most > MOST_ANSWERS) {
            return -1;
        }
        kept = Math.min(most, allAnswers().count);
        return kept;
    }

    public int digit(int k, int letter) {
        int slot = sum.slotOf(letter);
        if (!isKept(k) || slot == NONE) {
            return -1;
        }
        return digitOf(answer(k), slot);
    }

    public long side(int k, int side) {
        if (!isKept(k) || side < 0 || side > 1) {
            return -1;
        }
        return sum.sideValue(side == 1, answer(k));
    }

    public int carry(int k, int c) {
        if (!isKept(k) || c < 0 || c > LAST_COLUMN || !sum.hasCarries()) {
            return -1;
        }
        return sum.carryFrom(c, answer(k));
    }

    public int text(int k, int i) {
        if (!isKept(k)) {
            return -1;
        }
        int there = sum.byteAt(i);
        return isLetter(there) ? DIGIT_ZERO + sum.digitAt(i, answer(k)) : there;
    }

    public boolean one() {
        return allAnswers().count == 1;
    }

    public int fixed() {
        if (kept == 0) {
            return 0;
        }
        int same = 0;
        for (int slot = 0; slot < sum.letterCount; slot++) {
            if (isAlwaysSame(slot)) {
                same++;
            }
        }
        return same;
    }

    private boolean isAlwaysSame(int slot) {
        int first = digitOf(answer(0), slot);
        for (int k = 1; k < kept; k++) {
            if (digitOf(answer(k), slot) != first) {
                return false;
            }
        }
        return true;
    }

    private boolean isKept(int k) {
        return k >= 0 && k < kept;
    }

    private int answer(int k) {
        return currentAnswers().get(k);
    }

    private Answers currentAnswers() {
        return barred ? barredAnswers : freeAnswers;
    }

    // run() and one() share one search: it depends on the text and the barring alone.
    private Answers allAnswers() {
        Answers answers = currentAnswers();
        if (!answers.known) {
            search.fill(answers, sum, barred);
            answers.known = true;
        }
        return answers;
    }

    private static boolean isLetter(int u) {
        return u >= LETTER_A && u <= LETTER_Z;
    }

    private static boolean isDigit(int u) {
        return u >= DIGIT_ZERO && u <= DIGIT_NINE;
    }

    // An answer is one int, four bits for each letter: a thousand of them stay small.
    private static int digitOf(int answer, int slot) {
        return (answer >>> (4 * slot)) & 15;
    }

    private static int withDigit(int answer, int slot, int digit) {
        return answer | (digit << (4 * slot));
    }

    /** Says where a text goes wrong; it touches nothing else, so that a refused text changes nothing. */
    private static final class Grammar {
        private final int base;
        private int words;
        private int signs;
        private int seen;
        private boolean behind;

        Grammar(int base) {
            this.base = base;
        }

        int firstWrong(int[] bytes, int count) {
            words = 0;
            signs = 0;
            seen = 0;
            behind = false;
            for (int i = 0; i < count && i < bytes.length; i++) {
                if (!admits(bytes[i])) {
                    return i;
                }
            }
            return behind && signs > 0 ? NONE : count;
        }

        private boolean admits(int u) {
            if (isLetter(u)) {
                return admitsLetter(u) && admitsSign();
            }
            if (isDigit(u)) {
                return u - DIGIT_ZERO < base && admitsSign();
            }
            if (u == EQUALS) {
                return admitsEquals();
            }
            return (u == PLUS || u == MINUS) && endsWord();
        }

        private boolean admitsLetter(int u) {
            seen |= 1 << (u - LETTER_A);
            return Integer.bitCount(seen) <= MOST_LETTERS;
        }

        private boolean admitsSign() {
            if (signs == 0) {
                words++;
            }
            signs++;
            return words <= MOST_WORDS && signs <= MOST_SIGNS;
        }

        private boolean admitsEquals() {
            if (behind) {
                return false;
            }
            behind = true;
            return endsWord();
        }

        private boolean endsWord() {
            boolean hadWord = signs > 0;
            signs = 0;
            return hadWord;
        }
    }

    /** The text that was read last: its bytes, words and letters. */
    private static final class Sum {
        private final int base;
        private final int[] bytes = new int[MOST_BYTES];
        private int length = 0;
        private int equalsPlace = 0;
        private final int[] starts = new int[MOST_WORDS];
        private final int[] ends = new int[MOST_WORDS];
        private int words = 0;
        private final int[] byAlphabet = new int[MOST_LETTERS];
        private final int[] slots = new int[ALPHABET];
        private int letterCount = 0;

        Sum(int base) {
            this.base = base;
            Arrays.fill(slots, NONE);
        }

        /** Takes over a text that the grammar has found right. */
        void take(int[] from, int count) {
            length = 0;
            for (int i = 0; i < count && i < from.length && i < bytes.length; i++) {
                bytes[i] = from[i];
                length++;
            }
            listWords();
            listLetters();
        }

        private void listWords() {
            words = 0;
            boolean inside = false;
            for (int i = 0; i < length; i++) {
                boolean sign = isLetter(bytes[i]) || isDigit(bytes[i]);
                if (sign && !inside && words < MOST_WORDS) {
                    starts[words] = i;
                    words++;
                }
                if (sign && words > 0) {
                    ends[words - 1] = i + 1;
                }
                if (bytes[i] == EQUALS) {
                    equalsPlace = i;
                }
                inside = sign;
            }
        }

        private void listLetters() {
            int seen = 0;
            for (int i = 0; i < length; i++) {
                if (isLetter(bytes[i])) {
                    seen |= 1 << (bytes[i] - LETTER_A);
                }
            }
            letterCount = 0;
            for (int i = 0; i < ALPHABET; i++) {
                slots[i] = NONE;
                if ((seen >> i & 1) == 1 && letterCount < MOST_LETTERS) {
                    byAlphabet[letterCount] = LETTER_A + i;
                    slots[i] = letterCount;
                    letterCount++;
                }
            }
        }

        int byteAt(int i) {
            return i >= 0 && i < length ? bytes[i] : NONE;
        }

        int letterAt(int slot) {
            return slot >= 0 && slot < letterCount ? byAlphabet[slot] : NONE;
        }

        int slotOf(int u) {
            return isLetter(u) ? slots[u - LETTER_A] : NONE;
        }

        /** The digit that stands at a place of the text under an answer. */
        int digitAt(int i, int answer) {
            int there = byteAt(i);
            int slot = slotOf(there);
            return slot == NONE ? there - DIGIT_ZERO : digitOf(answer, slot);
        }

        boolean isBehind(int word) {
            return starts[word] > equalsPlace;
        }

        boolean isTakenAway(int word) {
            return byteAt(starts[word] - 1) == MINUS;
        }

        boolean hasCarries() {
            int wordsBehind = 0;
            for (int word = 0; word < words; word++) {
                if (isTakenAway(word)) {
                    return false;
                }
                if (isBehind(word)) {
                    wordsBehind++;
                }
            }
            return wordsBehind == 1;
        }

        long sideValue(boolean behind, int answer) {
            long value = 0;
            for (int word = 0; word < words; word++) {
                if (isBehind(word) == behind) {
                    long part = endValue(word, MOST_SIGNS, answer);
                    value += isTakenAway(word) ? -part : part;
                }
            }
            return value;
        }

        int carryFrom(int column, int answer) {
            long whole = 0;
            for (int word = 0; word < words; word++) {
                if (!isBehind(word)) {
                    whole += endValue(word, column + 1, answer);
                }
            }
            long divisor = 1;
            for (int i = 0; i <= column; i++) {
                divisor *= base;
            }
            return divisor > 0 ? (int) (whole / divisor) : NONE;
        }

        /** What the last signs of a word come to, at most so many of them. */
        private long endValue(int word, int signs, int answer) {
            long value = 0;
            for (int i = Math.max(starts[word], ends[word] - signs); i < ends[word]; i++) {
                value = value * base + digitAt(i, answer);
            }
            return value;
        }
    }

    /** Answers in their order, each packed into an int. */
    private static final class Answers {
        private final int[] packed = new int[MOST_ANSWERS];
        private int count = 0;
        private boolean known = false;

        void forget() {
            count = 0;
            known = false;
        }

        void add(int answer) {
            if (!isFull()) {
                packed[count] = answer;
                count++;
            }
        }

        boolean isFull() {
            return count >= packed.length;
        }

        int get(int k) {
            return k >= 0 && k < count ? packed[k] : 0;
        }
    }

    /**
     * The text as weights: what each letter's digit counts, and what the digits in the text come to,
     * with all words brought ahead of the =. No total passes 8 words of 99,999,999: an int holds it.
     */
    private static final class Weights {
        private final int base;
        private final int[] ofSlot = new int[MOST_LETTERS];
        private int ofDigits = 0;
        private int frontSlots = 0;
        private boolean zeroInFront = false;

        Weights(int base) {
            this.base = base;
        }

        void weigh(Sum sum) {
            Arrays.fill(ofSlot, 0);
            ofDigits = 0;
            frontSlots = 0;
            zeroInFront = false;
            for (int word = 0; word < sum.words; word++) {
                weighWord(sum, word);
                if (sum.ends[word] - sum.starts[word] > 1) {
                    noteFront(sum, sum.starts[word]);
                }
            }
        }

        private void weighWord(Sum sum, int word) {
            int weight = sum.isBehind(word) == sum.isTakenAway(word) ? 1 : -1;
            for (int i = sum.ends[word] - 1; i >= sum.starts[word]; i--) {
                int there = sum.byteAt(i);
                int slot = sum.slotOf(there);
                if (slot == NONE) {
                    ofDigits += weight * (there - DIGIT_ZERO);
                } else {
                    ofSlot[slot] += weight;
                }
                weight *= base;
            }
        }

        private void noteFront(Sum sum, int i) {
            int slot = sum.slotOf(sum.byteAt(i));
            if (slot != NONE) {
                frontSlots |= 1 << slot;
            } else if (sum.byteAt(i) == DIGIT_ZERO) {
                zeroInFront = true;
            }
        }

        boolean isFront(int slot) {
            return (frontSlots >> slot & 1) == 1;
        }
    }

    /**
     * Finds the answers. Trying all digits for 8 letters would be 1,814,400 trials; so the ways to fill
     * the later half of the letters are listed first, by what they come to, and each way to fill the
     * earlier half looks up those that bring the whole to 0.
     */
    private static final class Search {
        // Four letters in base 10 have 10 * 9 * 8 * 7 ways.
        private static final int MOST_WAYS = 5040;
        // A prime, so that the powers of a base spread over the chains.
        private static final int CHAINS = 4099;

        private final int base;
        private final Weights weights;
        private final int[] waySum = new int[MOST_WAYS];
        private final int[] wayDigits = new int[MOST_WAYS];
        private final int[] wayUsed = new int[MOST_WAYS];
        private final int[] nextWay = new int[MOST_WAYS];
        private final int[] firstWay = new int[CHAINS];
        private int ways = 0;
        private int letterCount = 0;
        private int middle = 0;
        private boolean barred = true;

        Search(int base) {
            this.base = base;
            weights = new Weights(base);
        }

        void fill(Answers answers, Sum sum, boolean zerosBarred) {
            answers.forget();
            weights.weigh(sum);
            if (sum.words == 0 || zerosBarred && weights.zeroInFront) {
                return;
            }
            barred = zerosBarred;
            letterCount = Math.min(sum.letterCount, MOST_LETTERS);
            middle = letterCount - letterCount / 2;
            ways = 0;
            listLater(middle, 0, 0, 0);
            chainWays();
            tryEarlier(0, 0, 0, weights.ofDigits, answers);
        }

        private void listLater(int slot, int used, int digits, int total) {
            if (slot >= letterCount) {
                addWay(used, digits, total);
                return;
            }
            for (int digit = 0; digit < base; digit++) {
                if (mayBe(slot, digit, used)) {
                    listLater(slot + 1, used | 1 << digit, withDigit(digits, slot, digit),
                            total + digit * weights.ofSlot[slot]);
                }
            }
        }

        private void addWay(int used, int digits, int total) {
            if (ways < MOST_WAYS) {
                waySum[ways] = total;
                wayDigits[ways] = digits;
                wayUsed[ways] = used;
                ways++;
            }
        }

        // From the last to the first, each put at the head: so a chain keeps the order of the answers.
        private void chainWays() {
            Arrays.fill(firstWay, NONE);
            for (int way = ways - 1; way >= 0; way--) {
                int chain = Math.floorMod(waySum[way], CHAINS);
                nextWay[way] = firstWay[chain];
                firstWay[chain] = way;
            }
        }

        private void tryEarlier(int slot, int used, int digits, int total, Answers answers) {
            if (slot >= middle) {
                join(used, digits, total, answers);
                return;
            }
            for (int digit = 0; digit < base && !answers.isFull(); digit++) {
                if (mayBe(slot, digit, used)) {
                    tryEarlier(slot + 1, used | 1 << digit, withDigit(digits, slot, digit),
                            total + digit * weights.ofSlot[slot], answers);
                }
            }
        }

        private void join(int used, int digits, int total, Answers answers) {
            int way = firstWay[Math.floorMod(-total, CHAINS)];
            for (int steps = 0; steps < ways && way >= 0 && way < ways; steps++) {
                if (waySum[way] == -total && (wayUsed[way] & used) == 0) {
                    answers.add(digits | wayDigits[way]);
                }
                way = nextWay[way];
            }
        }

        private boolean mayBe(int slot, int digit, int used) {
            boolean zeroBarred = digit == 0 && barred && weights.isFront(slot);
            return (used >> digit & 1) == 0 && !zeroBarred;
        }
    }
}
