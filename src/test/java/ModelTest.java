import java.util.Random;

/** Runs of calls made by a fixed seed, each answer held against the plain model's. */
public final class ModelTest {
    private static final int RUNS = 3000;
    private static final int[] ODD = {-1, 0, 1, 2, 7, 8, 9, 79, 80, 97, 122, 255, 256, 999, 1000, 1001,
            Integer.MIN_VALUE, Integer.MAX_VALUE};

    private final Random random;
    private final int base;
    private final LetterSums x;
    private final Model m;
    private final String name;
    private String lately = "";

    private ModelTest(int seed) {
        random = new Random(seed);
        base = random.nextInt(10) == 0 ? ODD[random.nextInt(ODD.length)] : 2 + random.nextInt(9);
        x = new LetterSums(base);
        m = new Model(base);
        name = "run " + seed + ", base " + base + ": ";
    }

    public static void main(String[] args) {
        for (int seed = 0; seed < RUNS; seed++) {
            new ModelTest(seed).calls();
        }
        Check.end();
    }

    private void calls() {
        for (int made = 0; made < 300; made += 20) {
            switch (random.nextInt(4)) {
                case 0 -> type(random.nextInt(3) == 0 ? scraps() : sum());
                case 1 -> change();
                default -> look();
            }
        }
    }

    private int held() {
        return Math.max(2, Math.min(10, base));
    }

    private void type(String text) {
        lately = text;
        for (char c : text.toCharArray()) {
            Check.due(name + "unit", x.unit(c), m.unit(c));
        }
        Check.due(name + "read() of " + text, x.read(), m.read());
        if (random.nextInt(3) > 0) {
            find(1000);
            look();
        }
    }

    /** A text that is right but for the few that are too long or have too many letters. */
    private String sum() {
        int words = 2 + random.nextInt(random.nextInt(8) == 0 ? 8 : 3);
        int equals = 1 + random.nextInt(words - 1);
        // The model tries all digits, so many letters are rare here; HardSumsTest has them.
        int letters = 1 + random.nextInt(random.nextInt(60) == 0 ? 9 : 5);
        int shift = random.nextInt(27 - letters);
        int longest = 1 + random.nextInt(random.nextInt(8) == 0 ? 9 : 3);
        StringBuilder text = new StringBuilder();
        for (int w = 0; w < words; w++) {
            if (w > 0) {
                text.append(w == equals ? '=' : random.nextInt(3) == 0 ? '-' : '+');
            }
            for (int i = 1 + random.nextInt(longest); i > 0; i--) {
                boolean digit = random.nextInt(4) == 0;
                text.append((char) (digit ? '0' + random.nextInt(held()) : 'a' + shift + random.nextInt(letters)));
            }
        }
        return text.toString();
    }

    private String scraps() {
        StringBuilder text = new StringBuilder();
        String signs = "abcabcz0123456789++--==" + (char) random.nextInt(256);
        for (int i = random.nextInt(random.nextInt(10) == 0 ? 90 : 9); i > 0; i--) {
            text.append(signs.charAt(random.nextInt(signs.length())));
        }
        return text.toString();
    }

    private int number(int near) {
        return random.nextInt(4) == 0 ? ODD[random.nextInt(ODD.length)] : random.nextInt(near);
    }

    private void find(int most) {
        Check.due(name + "run(" + most + ") of " + lately, x.run(most), m.run(most));
    }

    private void change() {
        switch (random.nextInt(4)) {
            case 0 -> {
                boolean on = random.nextBoolean();
                x.bar(on);
                m.bar(on);
            }
            case 1 -> {
                int u = number(256);
                Check.due(name + "unit(" + u + ")", x.unit(u), m.unit(u));
            }
            case 2 -> Check.due(name + "one() of " + lately, x.one(), m.one());
            default -> find(number(30));
        }
    }

    private void look() {
        for (int i = 0; i < 12; i++) {
            int k = number(6);
            int n = number(12);
            int letter = random.nextInt(4) == 0 ? number(256) : m.letter(random.nextInt(8));
            String at = name + lately + " (" + k + ", " + n + ")";
            Check.due(at + " digit of " + letter, x.digit(k, letter), m.digit(k, letter));
            Check.due(at + " side", x.side(k, n), m.side(k, n));
            Check.due(at + " carry", x.carry(k, n), m.carry(k, n));
            Check.due(at + " text", x.text(k, n), m.text(k, n));
            Check.due(at + " letter", x.letter(n), m.letter(n));
        }
        Check.due(name + lately + " letters", x.letters(), m.letters());
        Check.due(name + lately + " fixed", x.fixed(), m.fixed());
    }
}
