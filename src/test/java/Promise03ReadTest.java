/** Promise 3: how many words, or -1 less the place of the first byte that may not be there. */
public final class Promise03ReadTest {
    public static void main(String[] args) {
        countsWords();
        namesThePlace();
        knowsEveryByte();
        refusalLeavesWhatWasThere();
        readingTakesWhatWasFound();
        Check.end();
    }

    private static void reads(int base, String text, int want) {
        LetterSums x = new LetterSums(base);
        Check.due("base " + base + ": read() of " + text, Check.read(x, text), want);
        Check.due("read() again", x.read(), -1);
    }

    private static void countsWords() {
        reads(10, "a=b", 2);
        reads(10, "1=1", 2);
        reads(10, "send+more=money", 3);
        reads(10, "a-b=c-d", 4);
        reads(10, "a+b-c+d=e-f+g-h", 8);
        reads(10, "a=a+a+a+a+a+a+a", 8);
        reads(10, "a+a+a+a+a+a+a=a", 8);
        reads(10, "abcdefgh=hgfedcba", 2);
        reads(10, "a1b2c3d4=12345678", 2);
        reads(2, "abcdefgh=10101010", 2);
        reads(10, "az=by", 2);
    }

    private static void namesThePlace() {
        endsTooSoon();
        reads(10, "+a=b", -1);
        reads(10, "-a=b", -1);
        reads(10, "=a", -1);
        reads(10, "a++b=c", -3);
        reads(10, "a+-b=c", -3);
        reads(10, "a-=c", -3);
        reads(10, "a=+c", -3);
        reads(10, "a=-c", -3);
        reads(10, "a==c", -3);
        reads(10, "a=c=", -4);
        reads(10, "a=c=d", -4);
        reads(10, "a=b+c=d", -6);
        reads(10, "a=b+=d", -5);
        reads(10, "a =b", -2);
        reads(10, "A=b", -1);
        // The ninth letter, in whatever word; a known letter after eight is fine.
        reads(10, "abcd+efgh=i", -11);
        reads(10, "abcd+efgh=hi", -12);
        reads(10, "abcd+efgh=hgfe", 3);
        reads(10, "abcdefgh+i=a", -10);
        // The ninth sign of a word.
        reads(10, "aaaaaaaaa=a", -9);
        reads(10, "000000000=a", -9);
        reads(10, "a=b+aaaaaaaaa", -13);
        reads(10, "abcdefghi=a", -9);
        // A digit not less than the base.
        reads(2, "a=2", -3);
        reads(9, "9=a", -1);
        reads(9, "8=a", 2);
        reads(5, "a+1234=4567", -9);
        // What begins a ninth word; the byte ahead of it may be there.
        reads(10, "a+a+a+a+a+a+a+a+a=a", -17);
        reads(10, "a+a+a+a+a+a+a+a=a", -17);
        reads(10, "a=a+a+a+a+a+a+a+a", -17);
        reads(10, "a=a+a+a+a+a+a+a+1", -17);
        reads(10, "a=a+a+a+a+a+a+a-=", -17);
        // Of several faults the first counts.
        reads(2, "a=2=", -3);
        reads(2, "a==2", -3);
    }

    private static void endsTooSoon() {
        reads(10, "", -1);
        reads(10, "a", -2);
        reads(10, "ab", -3);
        reads(10, "a+", -3);
        reads(10, "a+b", -4);
        reads(10, "a=", -3);
        reads(10, "a=b+", -5);
        reads(10, "a=b-", -5);
        reads(10, "a+a+a+a+a+a+a+a", -16);
        reads(10, "a+a+a+a+a+a+a+a=", -17);
    }

    private static void knowsEveryByte() {
        for (int u = 0; u <= 255; u++) {
            boolean sign = u >= 'a' && u <= 'z' || u >= '0' && u <= '6';
            LetterSums x = new LetterSums(7);
            x.unit(u);
            Check.due("base 7: read() of byte " + u + " and =a", Check.read(x, "=a"), sign ? 2 : -1);
            x.unit('a');
            x.unit(u);
            int want = sign ? 2 : u == '+' || u == '-' ? 3 : u == '=' ? -4 : -2;
            Check.due("base 7: read() of a, byte " + u + " and b=1", Check.read(x, "b=1"), want);
        }
    }

    private static void refusalLeavesWhatWasThere() {
        LetterSums x = Check.with(10, "ab+ba=cc");
        int found = x.run(1000);
        String first = Check.written(x, 0);
        String[] refused = {"", "z", "y=", "d+e=f=g", "abcdefgh=i", "q=r "};
        for (String text : refused) {
            Check.due("read() of " + text, Check.read(x, text) < 0, true);
            Check.due("letters()", x.letters(), 3);
            Check.due("letter(2)", x.letter(2), 'c');
            Check.due("written", Check.written(x, 0), first);
            Check.due("text(last, 0)", x.text(found - 1, 0) > 0, true);
            Check.due("fixed()", x.fixed(), 0);
            Check.due("carry(0, 0)", x.carry(0, 0), 0);
        }
        Check.due("run(1000)", x.run(1000), found);
    }

    private static void readingTakesWhatWasFound() {
        LetterSums x = Check.with(10, "a=1");
        Check.due("run(9)", x.run(9), 1);
        Check.due("read() of the same", Check.read(x, "a=1"), 2);
        Check.due("digit(0, a)", x.digit(0, 'a'), -1);
        Check.due("side(0, 0)", x.side(0, 0), -1);
        Check.due("carry(0, 0)", x.carry(0, 0), -1);
        Check.due("text(0, 0)", x.text(0, 0), -1);
        Check.due("fixed()", x.fixed(), 0);
        Check.due("letters()", x.letters(), 1);
        Check.due("read() of another", Check.read(x, "z-y=2"), 3);
        Check.due("letters()", x.letters(), 2);
        Check.due("letter(0)", x.letter(0), 'y');
        Check.due("run(1)", x.run(1), 1);
        Check.due("digit(0, a)", x.digit(0, 'a'), -1);
        Check.due("written", Check.written(x, 0), "2-0=2");
    }
}
