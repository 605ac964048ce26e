import java.util.Random;

/** TEXTS for tests: by chance, bent by chance, and as the numbers that feed takes. */
final class Texts {
    private Texts() {
    }

    /** The bytes as numbers, five by five, the highest byte first; 0 fills the rest. */
    static int[] words(String text) {
        int[] words = new int[(text.length() + 19) / 20 * 5];
        for (int i = 0; i < text.length(); i++) {
            words[i / 4] |= (text.charAt(i) & 255) << (24 - i % 4 * 8);
        }
        return words;
    }

    static void feed(GuiltyShave x, String text) {
        int[] w = words(text);
        for (int i = 0; i < w.length; i += 5) {
            x.feed(w[i], w[i + 1], w[i + 2], w[i + 3], w[i + 4]);
        }
    }

    /** What text(sort) answers to this text. */
    static int tell(GuiltyShave x, int sort, String text) {
        x.end(0);
        feed(x, text);
        return x.text(sort);
    }

    /** The FAULT of this text. */
    static int faultOf(int sort, String text) {
        GuiltyShave x = new GuiltyShave();
        feed(x, text);
        return x.fault(sort);
    }

    private static String blank(Random dice) {
        return dice.nextInt(12) == 0 ? " ".repeat(1 + dice.nextInt(2)) : "";
    }

    private static String item(Random dice, char letter, int low, int high) {
        if (dice.nextInt(4) == 0) return "";
        int v = low + dice.nextInt(high - low + 1);
        String number = v < 10 && dice.nextInt(8) == 0 ? "0" + v : "" + v;
        return blank(dice) + letter + blank(dice) + number + blank(dice);
    }

    static String town(Random dice) {
        int people = dice.nextInt(3) == 0 ? 1 + dice.nextInt(6) : 1 + dice.nextInt(3);
        int deeds = dice.nextInt(5) == 0 ? 1 + dice.nextInt(8) : 1 + dice.nextInt(4);
        java.util.List<String> clauses = new java.util.ArrayList<>();
        for (int i = 0; i < people; i++) {
            String[] items = {item(dice, 'b', 0, dice.nextBoolean() ? 4 : 99), item(dice, 's', 0, 9), item(dice, 'w', 0, 6)};
            java.util.Collections.shuffle(java.util.Arrays.asList(items), dice);
            clauses.add("p" + String.join("", items));
        }
        for (int i = 0; i < deeds; i++) {
            String[] items = {item(dice, 'k', 1, 9), item(dice, 'h', 0, 9), item(dice, 'l', 1, 9)};
            java.util.Collections.shuffle(java.util.Arrays.asList(items), dice);
            clauses.add("d" + String.join("", items));
        }
        if (dice.nextBoolean()) {
            clauses.add("s" + item(dice, 'n', 0, 9) + item(dice, 'c', 0, 99));
        }
        java.util.Collections.shuffle(clauses, dice);
        return blank(dice) + String.join(";" + blank(dice), clauses) + blank(dice);
    }

    static String law(Random dice) {
        StringBuilder b = new StringBuilder();
        int clauses = 1 + dice.nextInt(4);
        for (int i = 0; i < clauses; i++) {
            if (i > 0) b.append(';').append(blank(dice));
            b.append("y:").append(blank(dice));
            if (dice.nextInt(3) > 0) b.append(condition(dice, 0)).append('?');
            b.append(sum(dice, 0));
        }
        return b.length() > 240 ? law(dice) : b.toString();
    }

    private static String condition(Random dice, int within) {
        String t = truth(dice, within);
        return dice.nextInt(4) == 0 ? t + "|" + blank(dice) + truth(dice, within) : t;
    }

    private static String truth(Random dice, int within) {
        String t = unit(dice, within);
        return dice.nextInt(4) == 0 ? t + "&" + blank(dice) + unit(dice, within) : t;
    }

    private static String unit(Random dice, int within) {
        int r = within < 7 ? dice.nextInt(within < 2 ? 6 : 3) : 9;
        if (r == 0) return "!" + blank(dice) + unit(dice, within + 1);
        if (r == 1) return "(" + condition(dice, within + 1) + ")" + blank(dice);
        return sum(dice, within) + "=<>".charAt(dice.nextInt(3)) + blank(dice) + sum(dice, within);
    }

    private static String sum(Random dice, int within) {
        String t = term(dice, within);
        for (int i = 0; i < 3 && dice.nextInt(3) == 0; i++) t += "+-".charAt(dice.nextInt(2)) + term(dice, within);
        return t;
    }

    private static String term(Random dice, int within) {
        String t = atom(dice, within);
        for (int i = 0; i < 3 && dice.nextInt(4) == 0; i++) t += "*/".charAt(dice.nextInt(2)) + atom(dice, within);
        return t;
    }

    private static String atom(Random dice, int within) {
        int r = dice.nextInt(8);
        if (r == 0 && within < 7) return "[" + sum(dice, within + 1) + "]" + blank(dice);
        if (r < 3) return "" + dice.nextInt(new int[] {4, 10, 100, 10000}[dice.nextInt(4)]) + blank(dice);
        return "ggsbnwt".charAt(dice.nextInt(7)) + blank(dice);
    }

    static String week(Random dice) {
        StringBuilder b = new StringBuilder();
        int steps = dice.nextInt(6) == 0 ? 1 + dice.nextInt(17) : 1 + dice.nextInt(8);
        for (int i = 0; i < steps; i++) {
            if (i > 0) b.append(';').append(blank(dice));
            int p = dice.nextInt(dice.nextInt(6) == 0 ? 10 : 2);
            int d = dice.nextInt(dice.nextInt(6) == 0 ? 10 : 3);
            switch (dice.nextInt(5)) {
                case 0: case 1: b.append('d').append(blank(dice)).append(p).append(blank(dice)).append(d); break;
                case 2: b.append('s').append(blank(dice)).append(p); break;
                case 3: b.append('a').append(p).append(d); break;
                default: b.append('n'); break;
            }
            b.append(blank(dice));
        }
        return b.toString();
    }

    /** One or two signs put in, left out or put for others. */
    static String bent(Random dice, String text) {
        StringBuilder b = new StringBuilder(text);
        String signs = "0123456789 ;spdncbswkhlyg:?|&!()[]=<>+-*/tna";
        for (int n = 1 + dice.nextInt(2); n > 0; n--) {
            int at = dice.nextInt(b.length() + 1);
            char sign = dice.nextInt(12) == 0 ? (char) (1 + dice.nextInt(255)) : signs.charAt(dice.nextInt(signs.length()));
            switch (dice.nextInt(4)) {
                case 0: b.insert(at, sign); break;
                case 1: if (at < b.length()) b.deleteCharAt(at); break;
                case 2: if (at < b.length()) b.setCharAt(at, sign); break;
                default: b.setLength(at); break;
            }
        }
        return b.toString();
    }
}
