/** Promise 3: how many words, or -1 less the place of the first byte that may not be there. */
public final class Promise03ReadTest {
    public static void main(String[] args) {
        whatIsRight();
        whatIsWrong();
        whatIsLeft();
        Check.end();
    }

    private static void whatIsRight() {
        Check.test("Promise 3: \"how many words\"", Promise03ReadTest::countsWords);
        Check.test("Promise 3: THE TEXT, \"at most 8 words\": 2 to 8 are right", Promise03ReadTest::twoToEightWords);
        Check.test("Promise 3: THE TEXT, \"each of 1 to 8 signs\": 1 and 8 are right",
                Promise03ReadTest::oneToEightSigns);
        Check.test("Promise 3: THE TEXT, \"at most 8 different ones\": 8 are right", Promise03ReadTest::eightLetters);
        Check.test("Promise 3: THE TEXT, \"bytes 97 to 122\", \"bytes 48 to 57\", 43, 45, 61",
                Promise03ReadTest::everyByte);
        Check.test("Promise 3: THE TEXT, digits \"less than the base\" are right",
                Promise03ReadTest::digitsBelowTheBase);
    }

    private static void whatIsWrong() {
        Check.test("Promise 3: \"how many bytes there are, when it ends too soon\"", Promise03ReadTest::endsTooSoon);
        Check.test("Promise 3: nothing typed ends too soon", Promise03ReadTest::nothingTyped);
        Check.test("Promise 3: \"the ninth letter\"", Promise03ReadTest::ninthLetter);
        Check.test("Promise 3: \"the ninth sign of a word\"", Promise03ReadTest::ninthSign);
        Check.test("Promise 3: \"a digit not less than the base\"", Promise03ReadTest::digitNotBelowTheBase);
        Check.test("Promise 3: \"what begins a ninth word\"", Promise03ReadTest::ninthWord);
        Check.test("Promise 3: \"a second =\"", Promise03ReadTest::secondEquals);
        Check.test("Promise 3: a word without a sign", Promise03ReadTest::emptyWord);
        Check.test("Promise 3: \"the first byte that may not be there\", of several",
                Promise03ReadTest::firstOfSeveral);
    }

    private static void whatIsLeft() {
        Check.test("Promise 3: \"it is gone then\"", Promise03ReadTest::textIsGone);
        Check.test("Promise 3: \"also when it is refused\"", Promise03ReadTest::refusedTextIsGone);
        Check.test("Promise 3: \"what was found is gone\"", Promise03ReadTest::foundIsGone);
        Check.test("Promise 3: another text takes the place of the one ahead", Promise03ReadTest::anotherText);
        Check.test("Promise 3: \"then what was read ahead .. stays\"", Promise03ReadTest::readAheadStays);
        Check.test("Promise 3: \"then what was .. found, stays\"", Promise03ReadTest::foundStays);
        Check.test("Promise 3: a refusal on a new object leaves it new", Promise03ReadTest::staysNew);
    }

    private static void reads(int base, String text, int want) {
        LetterSums x = new LetterSums(base);
        Check.due("base " + base + ": read() of " + text, Check.read(x, text), want);
        // Whatever an object has read ahead, it reads a text the same.
        LetterSums y = Check.with(base, "abcdefgh-1=hgfedcba+1-0");
        Check.due("base " + base + ": read() of " + text + ", the second text", Check.read(y, text), want);
    }

    private static void countsWords() {
        reads(10, "send+more=money", 3);
        reads(10, "a-b=c-d", 4);
        reads(10, "1=1", 2);
        reads(10, "a1b2c3d4=12345678", 2);
        reads(10, "az=by", 2);
    }

    private static void twoToEightWords() {
        reads(10, "a=b", 2);
        for (int words = 2; words <= 8; words++) {
            for (int ahead = 1; ahead < words; ahead++) {
                String text = "a" + "+a".repeat(ahead - 1) + "=a" + "-a".repeat(words - ahead - 1);
                reads(10, text, words);
            }
        }
    }

    private static void oneToEightSigns() {
        for (int signs = 1; signs <= 8; signs++) {
            reads(10, "b".repeat(signs) + "=a", 2);
            reads(10, "a=" + "1".repeat(signs), 2);
            reads(2, "a-" + "0".repeat(signs) + "=1", 3);
        }
        reads(10, "abcdefgh=hgfedcba", 2);
        reads(10, "aaaaaaaa+bbbbbbbb-cccccccc+dddddddd=eeeeeeee-ffffffff+gggggggg-hhhhhhhh", 8);
    }

    private static void eightLetters() {
        reads(10, "abcd+efgh=hgfe", 3);
        reads(10, "a+b-c+d=e-f+g-h", 8);
        reads(10, "stuvwxyz=zyxwvuts", 2);
        // More letters than the base has digits are right too: there is no answer then, but a text.
        reads(2, "abcdefgh=10101010", 2);
    }

    private static void everyByte() {
        for (int u = 0; u <= 255; u++) {
            boolean sign = u >= 'a' && u <= 'z' || u >= '0' && u <= '9';
            LetterSums x = new LetterSums(10);
            x.unit(u);
            Check.due("read() of byte " + u + " and =a", Check.read(x, "=a"), sign ? 2 : -1);
            x.unit('a');
            x.unit(u);
            int want = sign ? 2 : u == '+' || u == '-' ? 3 : u == '=' ? -4 : -2;
            Check.due("read() of a, byte " + u + " and b=1", Check.read(x, "b=1"), want);
        }
    }

    private static void digitsBelowTheBase() {
        for (int base = 2; base <= 10; base++) {
            for (int digit = 0; digit < base; digit++) {
                reads(base, "a=" + digit, 2);
                reads(base, "1" + digit + "=a", 2);
            }
        }
    }

    private static void endsTooSoon() {
        reads(10, "a", -2);
        reads(10, "ab", -3);
        reads(10, "abcdefgh", -9);
        reads(10, "a+", -3);
        reads(10, "a-", -3);
        reads(10, "a+b", -4);
        reads(10, "a=", -3);
        reads(10, "a=b+", -5);
        reads(10, "a=b-", -5);
        reads(10, "a+a+a+a+a+a+a+a", -16);
        reads(10, "a+a+a+a+a+a+a+a=", -17);
        reads(10, "a=a+a+a+a+a+a+a+", -17);
        reads(10, "aaaaaaaa+aaaaaaaa+aaaaaaaa+aaaaaaaa=aaaaaaaa+aaaaaaaa+aaaaaaaa+aaaaaaaa-", -73);
    }

    private static void nothingTyped() {
        reads(10, "", -1);
        LetterSums x = new LetterSums(10);
        Check.due("read()", x.read(), -1);
        Check.due("read() again", x.read(), -1);
        x.unit(-1);
        x.unit(256);
        Check.due("read() of refused bytes alone", x.read(), -1);
    }

    private static void ninthLetter() {
        reads(10, "abcd+efgh=i", -11);
        reads(10, "abcd+efgh=hi", -12);
        reads(10, "abcdefgh+i=a", -10);
        reads(10, "zyxw+vuts=a", -11);
        reads(10, "hgfe+abcd=aaaaaaaz", -18);
        // Fewer digits do not make the letters fewer.
        reads(2, "abcd+efgh=i", -11);
        reads(2, "abcd+efgh=h", 3);
    }

    private static void ninthSign() {
        reads(10, "aaaaaaaaa=a", -9);
        reads(10, "000000000=a", -9);
        reads(10, "a=bbbbbbbbb", -11);
        reads(10, "a=b+aaaaaaaa1", -13);
        reads(10, "a-111111111=b", -11);
        reads(10, "a-11111111=b", 3);
        reads(10, "abcdefghi=a", -9);
    }

    private static void digitNotBelowTheBase() {
        for (int base = 2; base < 10; base++) {
            for (int digit = base; digit < 10; digit++) {
                reads(base, digit + "=a", -1);
                reads(base, "a+1" + digit + "=b", -4);
                reads(base, "a=" + digit, -3);
            }
        }
        reads(5, "a+1234=4567", -9);
        reads(10, "9=a", 2);
    }

    private static void ninthWord() {
        // The ninth word's first sign may not be there; the + - or = ahead of it may.
        reads(10, "a+a+a+a+a+a+a+a+a=a", -17);
        reads(10, "a+a+a+a+a+a+a+a=a", -17);
        reads(10, "a=a+a+a+a+a+a+a+a", -17);
        reads(10, "a=a+a+a+a+a+a+a-1", -17);
        reads(10, "a+a+a+a=a+a+a+a-ab", -17);
        reads(10, "aa+a+a+a=a+a+a+aa-a", -19);
        // What may not stand there anyhow is told of as well.
        reads(10, "a=a+a+a+a+a+a+a-=", -17);
        reads(10, "a=a+a+a+a+a+a+a--", -17);
    }

    private static void secondEquals() {
        reads(10, "a=c=", -4);
        reads(10, "a=c=d", -4);
        reads(10, "a==c", -3);
        reads(10, "a=b+c=d", -6);
        reads(10, "a=bb-cc+1=d", -10);
        reads(10, "a+a+a+a+a+a+a=a=", -16);
    }

    private static void emptyWord() {
        reads(10, "+a=b", -1);
        reads(10, "-a=b", -1);
        reads(10, "=a", -1);
        reads(10, "=", -1);
        reads(10, "a++b=c", -3);
        reads(10, "a+-b=c", -3);
        reads(10, "a--b=c", -3);
        reads(10, "a-=c", -3);
        reads(10, "a+=c", -3);
        reads(10, "a=+c", -3);
        reads(10, "a=-c", -3);
        reads(10, "a=b+=d", -5);
        reads(10, "a=b-+d", -5);
    }

    private static void firstOfSeveral() {
        reads(2, "a=2=", -3);
        reads(2, "a==2", -3);
        reads(10, "a =b =", -2);
        reads(10, "aaaaaaaaa=b=c", -9);
        reads(10, "a=b=aaaaaaaaa", -4);
        reads(10, "abcd+efghi+aaaaaaaaa=1", -10);
        reads(10, "a+a+a+a+a+a+a+a+a=a=a", -17);
        // A byte that may not be there comes ahead of the end that comes too soon.
        reads(10, "a+b ", -4);
        reads(10, "?", -1);
    }

    private static void textIsGone() {
        LetterSums x = Check.with(10, "a=1");
        Check.due("read() again", x.read(), -1);
        Check.due("read() of what alone is too short", Check.read(x, "+2"), -1);
        // Of "a=1" nothing is left in front of these: they are a text of their own.
        Check.due("read()", Check.read(x, "2=b"), 2);
        Check.due("run(9)", x.run(9), 1);
        Check.due("written", Check.written(x, 0), "2=2");
    }

    private static void refusedTextIsGone() {
        String[] refused = {"a=", "a", "?", "a=b=", "abcdefgh=i", "aaaaaaaaa"};
        for (String text : refused) {
            LetterSums x = new LetterSums(10);
            Check.due("read() of " + text, Check.read(x, text) < 0, true);
            Check.due("read() again", x.read(), -1);
            Check.due("read()", Check.read(x, "a=1"), 2);
            Check.due("read() of " + text, Check.read(x, text) < 0, true);
            Check.due("read()", Check.read(x, "1"), -2);
        }
    }

    private static void foundIsGone() {
        LetterSums x = Check.found(10, "a=1", 9, 1);
        Check.due("fixed()", x.fixed(), 1);
        Check.due("read() of the same", Check.read(x, "a=1"), 2);
        Check.nothingKept(x);
        Check.due("run(9)", x.run(9), 1);
        Check.due("read() of another", Check.read(x, "a=2"), 2);
        Check.nothingKept(x);
        Check.due("run(9)", x.run(9), 1);
        Check.due("digit(0, a)", x.digit(0, 'a'), 2);
    }

    private static void anotherText() {
        LetterSums x = Check.found(10, "abc+a1=b9-0", 9, 0);
        Check.due("read() of another", Check.read(x, "z-y=2"), 3);
        Check.due("letters()", x.letters(), 2);
        Check.due("letter(0)", x.letter(0), 'y');
        Check.due("run(1)", x.run(1), 1);
        Check.due("digit(0, a)", x.digit(0, 'a'), -1);
        Check.due("written", Check.written(x, 0), "2-0=2");
        Check.due("read() of a third", Check.read(x, "c+1=2"), 3);
        Check.due("one()", x.one(), true);
        Check.due("run(1)", x.run(1), 1);
        Check.due("carry(0, 0)", x.carry(0, 0), 0);
        Check.due("written", Check.written(x, 0), "1+1=2");
    }

    /** One text for each way of being refused. */
    private static final String[] REFUSED = {"", "z", "y=", "d+e=f=g", "abcdefgh=i", "q=r ", "zzzzzzzzz=1",
        "1+1+1+1+1+1+1+1=2", "-a=1", "?", "xyz=a+b+c+"};

    private static void readAheadStays() {
        for (String text : REFUSED) {
            LetterSums x = Check.with(10, "ab+ba=cc");
            Check.due("read() of " + text, Check.read(x, text) < 0, true);
            Check.due("letters()", x.letters(), 3);
            Check.due("letter(2)", x.letter(2), 'c');
            Check.due("one()", x.one(), false);
            Check.due("run(1000)", x.run(1000), 32);
            Check.due("written", Check.written(x, 0), "12+21=33");
            Check.due("digit(1, b)", x.digit(1, 'b'), 3);
        }
        LetterSums y = Check.with(7, "a=6");
        Check.due("read() of a 7", Check.read(y, "b=7"), -3);
        Check.due("letter(0)", y.letter(0), 'a');
        Check.due("run(9)", y.run(9), 1);
    }

    private static void foundStays() {
        LetterSums x = Check.found(10, "ab+ba=cc", 5, 5);
        for (String text : REFUSED) {
            Check.due("read() of " + text, Check.read(x, text) < 0, true);
            Check.due("written", Check.written(x, 0), "12+21=33");
            Check.due("text(4, 0)", x.text(4, 0), '1');
            Check.due("text(5, 0)", x.text(5, 0), -1);
            Check.due("digit(4, b)", x.digit(4, 'b'), 6);
            Check.due("side(1, 0)", x.side(1, 0), 44);
            Check.due("carry(0, 0)", x.carry(0, 0), 0);
            Check.due("fixed()", x.fixed(), 1);
        }
    }

    private static void staysNew() {
        for (String text : REFUSED) {
            LetterSums x = new LetterSums(10);
            Check.due("read() of " + text, Check.read(x, text) < 0, true);
            Check.due("letters()", x.letters(), 0);
            Check.due("letter(0)", x.letter(0), -1);
            Check.due("one()", x.one(), false);
            Check.due("run(1000)", x.run(1000), 0);
            Check.nothingKept(x);
        }
    }
}
