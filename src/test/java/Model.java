import java.math.BigInteger;
import java.util.ArrayList;
import java.util.List;
import java.util.TreeSet;
import java.util.regex.Matcher;
import java.util.regex.Pattern;

/** The document once more, by other means and without thrift: what LetterSums is held against. */
final class Model {
    private final int base;
    private final StringBuilder typed = new StringBuilder();
    private String sum = "";
    private boolean barred = true;
    private List<String> found = new ArrayList<>();

    Model(int base) {
        this.base = base < 2 ? 2 : base > 10 ? 10 : base;
    }

    boolean unit(int u) {
        if (u < 0 || u > 255 || typed.length() == 80) {
            return false;
        }
        typed.append((char) u);
        return true;
    }

    int read() {
        String text = typed.toString();
        typed.setLength(0);
        for (int n = 1; n <= text.length(); n++) {
            if (!mayBegin(text.substring(0, n))) {
                return -n;
            }
        }
        if (!text.matches("[a-z0-9]+([-+][a-z0-9]+)*=[a-z0-9]+([-+][a-z0-9]+)*")) {
            return -1 - text.length();
        }
        sum = text;
        found = new ArrayList<>();
        return text.split("[-+=]").length;
    }

    /** Whether some right text begins so, or would but for its end. */
    private boolean mayBegin(String start) {
        String word = "[a-z0-" + (base - 1) + "]{1,8}";
        String side = word + "([-+]" + word + ")*";
        if (!start.matches("(" + side + "=)?(" + side + "[-+]?)?")) {
            return false;
        }
        return start.split("[-+=]").length <= 8 && letterSet(start).size() <= 8;
    }

    private static TreeSet<Character> letterSet(String text) {
        TreeSet<Character> set = new TreeSet<>();
        for (char c : text.toCharArray()) {
            if (c >= 'a' && c <= 'z') {
                set.add(c);
            }
        }
        return set;
    }

    void bar(boolean on) {
        barred = on;
        found = new ArrayList<>();
    }

    int letters() {
        return letterSet(sum).size();
    }

    int letter(int k) {
        List<Character> all = new ArrayList<>(letterSet(sum));
        return k < 0 || k >= all.size() ? -1 : all.get(k);
    }

    int run(int most) {
        if (most < 0 || most > 1000) {
            return -1;
        }
        found = answers(most);
        return found.size();
    }

    private List<String> answers(int most) {
        List<String> list = new ArrayList<>();
        if (!sum.isEmpty()) {
            collect(sum, most, list);
        }
        return list;
    }

    private void collect(String partly, int most, List<String> list) {
        if (list.size() >= most) {
            return;
        }
        TreeSet<Character> open = letterSet(partly);
        if (open.isEmpty()) {
            if (holds(partly)) {
                list.add(partly);
            }
            return;
        }
        char letter = open.first();
        for (int d = 0; d < base; d++) {
            if (!isGiven(partly, (char) ('0' + d))) {
                collect(partly.replace(letter, (char) ('0' + d)), most, list);
            }
        }
    }

    private boolean isGiven(String partly, char digit) {
        for (int i = 0; i < sum.length(); i++) {
            if (Character.isLetter(sum.charAt(i)) && partly.charAt(i) == digit) {
                return true;
            }
        }
        return false;
    }

    private boolean holds(String full) {
        if (barred && Pattern.compile("(^|[-+=])0[0-9]").matcher(full).find()) {
            return false;
        }
        String[] sides = full.split("=");
        return value(sides[0]).equals(value(sides[1]));
    }

    private BigInteger value(String words) {
        BigInteger all = BigInteger.ZERO;
        Matcher m = Pattern.compile("([-+]?)([0-9]+)").matcher(words);
        while (m.find()) {
            BigInteger one = new BigInteger(m.group(2), base);
            all = m.group(1).equals("-") ? all.subtract(one) : all.add(one);
        }
        return all;
    }

    private boolean has(int k) {
        return k >= 0 && k < found.size();
    }

    int digit(int k, int letter) {
        int at = letter >= 'a' && letter <= 'z' ? sum.indexOf(letter) : -1;
        return has(k) && at >= 0 ? found.get(k).charAt(at) - '0' : -1;
    }

    long side(int k, int side) {
        return has(k) && (side == 0 || side == 1) ? value(found.get(k).split("=")[side]).longValueExact() : -1;
    }

    int carry(int k, int c) {
        if (!has(k) || c < 0 || c > 8 || sum.contains("-") || sum.substring(sum.indexOf('=')).contains("+")) {
            return -1;
        }
        BigInteger all = BigInteger.ZERO;
        for (String word : found.get(k).split("=")[0].split("[+]")) {
            all = all.add(new BigInteger(word.substring(Math.max(0, word.length() - c - 1)), base));
        }
        return all.divide(BigInteger.valueOf(base).pow(c + 1)).intValueExact();
    }

    int text(int k, int i) {
        return has(k) && i >= 0 && i < sum.length() ? found.get(k).charAt(i) : -1;
    }

    boolean one() {
        return answers(2).size() == 1;
    }

    int fixed() {
        int same = 0;
        for (char letter : letterSet(sum)) {
            TreeSet<Integer> digits = new TreeSet<>();
            for (int k = 0; k < found.size(); k++) {
                digits.add(digit(k, letter));
            }
            same += digits.size() == 1 ? 1 : 0;
        }
        return same;
    }
}
