import java.util.Random;

/** Texts by chance: mostly good ones, some with a fault. */
final class Texts {
    private final Random chance;
    private static final String[] SIGNS = {"+", "-", "*", "/", "<", "<=", "=", "<>", ">=", ">", " and ", " or "};
    private static final String[] NAMES = {"by", "zone", "much", "pinch", "corns", "layers", "year"};
    private static final String[] ODD = {";", "(", ")", "<", ">", "=", "<>", "<=", " not ", " and ", " or ", " house ",
        " man ", " law ", " bear ", " corns ", " a ", " b ", " abcdefg ", " 0 ", " 21 ", " 100 ", " 99999999999 ", "!",
        "A", "\t", "\u00e9", "\n", " ", " strip 3;", " damp 7;", " seed 100000;", " wed a b 1;", " wed a a 1;",
        " add a 0 1 0;", " slice b 7 20 99;", " house f 3;", " man h a 1 1 1;"};

    Texts(Random chance) {
        this.chance = chance;
    }

    int below(int n) {
        return chance.nextInt(n);
    }

    private String name(int k) {
        return "" + (char) ('a' + k);
    }

    /** Rows of houses, folk, deeds, weddings, strips, laws, at most 700 bytes. */
    String any() {
        int houses = 1 + below(6);
        int folk = below(9);
        StringBuilder s = new StringBuilder();
        int wood = 10 + below(60);
        for (int h = 0; h < houses; h++) {
            s.append("house ").append(name(h)).append(' ').append(Math.max(0, wood + below(11) - 5)).append(';');
        }
        for (int m = 0; m < folk; m++) {
            s.append("man ").append(name(m)).append(' ').append(name(below(houses))).append(' ')
                    .append(Math.max(0, wood + below(9) - 5)).append(' ').append(below(8)).append(' ').append(below(21))
                    .append(';');
        }
        int span = below(2) == 0 ? 6 : 20;
        for (int d = below(15); d > 0; d--) {
            s.append(below(3) == 0 ? "slice " : "add ").append(name(below(houses))).append(' ').append(below(8))
                    .append(' ').append(1 + below(20)).append(' ').append(below(span)).append(';');
        }
        for (int w = folk < 2 ? 0 : below(5); w > 0; w--) {
            int one = below(folk);
            int other = (one + 1 + below(folk - 1)) % folk;
            s.append("wed ").append(name(one)).append(' ').append(name(other)).append(' ').append(below(span)).append(';');
        }
        for (int k = below(3); k > 0; k--) {
            s.append("strip ").append(below(span)).append(';');
        }
        if (below(3) > 0) {
            s.append("damp ").append(below(6) == 0 ? 100 : below(101)).append(';');
        }
        if (below(2) > 0) {
            s.append("seed ").append(below(100000)).append(';');
        }
        for (String law : new String[] {"thick", "bear", "corn"}) {
            if (below(2) == 0) {
                s.append("law ").append(law).append(' ').append(value(3)).append(';');
            }
        }
        if (s.length() > 700) {
            return s.substring(0, s.lastIndexOf(";", 690) + 1);
        }
        return s.toString();
    }

    String value(int depth) {
        int pick = below(10);
        if (depth == 0 || pick < 3) {
            return below(2) == 0 ? "" + below(below(4) == 0 ? 10000 : 12) : NAMES[below(7)];
        }
        if (pick == 3) {
            return "(not " + value(depth - 1) + ")";
        }
        if (pick == 4) {
            return "(" + value(depth - 1) + ")";
        }
        String whole = value(depth - 1) + SIGNS[below(SIGNS.length)] + value(depth - 1);
        return below(2) == 0 ? "(" + whole + ")" : whole;
    }

    /** A text with some bytes changed, left out or put in. */
    String spoiled(String text) {
        StringBuilder s = new StringBuilder(text);
        for (int k = 1 + below(3); k > 0 && s.length() > 0; k--) {
            int at = below(s.length());
            switch (below(4)) {
                case 0 -> s.insert(at, ODD[below(ODD.length)]);
                case 1 -> s.deleteCharAt(at);
                case 2 -> s.replace(at, at + 1, ODD[below(ODD.length)]);
                default -> s.setLength(at);
            }
        }
        return s.length() > 700 ? s.substring(0, 700) : s.toString();
    }
}
