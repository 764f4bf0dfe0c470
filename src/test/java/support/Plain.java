import java.math.BigInteger;
import java.util.ArrayList;
import java.util.Arrays;
import java.util.HashMap;
import java.util.HashSet;
import java.util.List;
import java.util.Map;
import java.util.Set;

/** The document once more, as plainly as may be and by other ways than the class: what runs are compared with. */
final class Plain {
    static final class Fault extends RuntimeException {
        final int kind;
        final int place;

        Fault(int kind, int place) {
            this.kind = kind;
            this.place = place;
        }
    }

    static final class Broken extends RuntimeException {
    }

    record Token(String kind, String said, int place) {
    }

    /** A tree of E: a number, a name, or a sign over parts. */
    record Tree(String head, List<Tree> parts) {
    }

    record Folk(String name, int house, int wide, int zone, int bump) {
    }

    record Deed(boolean slice, int house, int zone, int by, int year) {
    }

    record Wed(int one, int other, int year) {
    }

    static final class Text {
        int lines;
        int knots;
        final List<String> houseNames = new ArrayList<>();
        final List<Integer> woods = new ArrayList<>();
        final List<Folk> folk = new ArrayList<>();
        final List<Deed> deeds = new ArrayList<>();
        final List<Wed> weds = new ArrayList<>();
        final List<Integer> strips = new ArrayList<>();
        Integer damp;
        Integer seed;
        final Map<String, Tree> laws = new HashMap<>();

        int damp() {
            return damp == null ? 0 : damp;
        }
    }

    static final class World {
        int year;
        int refused;
        long number;
        int[][] wood;
        List<List<int[]>> layers = new ArrayList<>();
        int[] house;
        int[] bump;
        int[] corns;
        boolean[] wed;

        World copy() {
            World w = new World();
            w.year = year;
            w.refused = refused;
            w.number = number;
            w.wood = new int[wood.length][];
            for (int h = 0; h < wood.length; h++) {
                w.wood[h] = wood[h].clone();
                w.layers.add(new ArrayList<>(layers.get(h)));
            }
            w.house = house.clone();
            w.bump = bump.clone();
            w.corns = corns.clone();
            w.wed = wed.clone();
            return w;
        }

        int last(int h, int z) {
            int all = wood[h][z];
            for (int[] layer : layers.get(h)) {
                if (layer[0] == z) {
                    all += layer[1];
                }
            }
            return all;
        }

        int lastSum(int h) {
            int all = 0;
            for (int z = 0; z < 8; z++) {
                all += last(h, z);
            }
            return all;
        }
    }

    record Sight(int years, int man, int corns, boolean atLeast, int strikes) {
    }

    static final Set<String> LANGUAGE = Set.of("house", "man", "add", "slice", "wed", "strip", "damp", "seed", "law",
            "thick", "bear", "corn", "or", "and", "not", "by", "zone", "much", "pinch", "corns", "layers", "year");
    static final List<String> NAMES = List.of("by", "zone", "much", "pinch", "corns", "layers", "year");
    static final BigInteger MOST = BigInteger.TEN.pow(12);

    List<Integer> tape = new ArrayList<>();
    Text text = new Text();
    World now = begin(text);
    World image;
    int fault = 0;
    int faultPlace = -1;
    List<World> undo = new ArrayList<>();
    List<Sight> seen = new ArrayList<>();
    int known = -1;

    // ---- tokens

    static List<Token> cut(String s) {
        List<Token> all = new ArrayList<>();
        int i = 0;
        while (i < s.length()) {
            char c = s.charAt(i);
            int from = i;
            if (c == ' ' || c == '\n') {
                i++;
                continue;
            }
            if (c >= 'a' && c <= 'z') {
                while (i < s.length() && s.charAt(i) >= 'a' && s.charAt(i) <= 'z') {
                    i++;
                }
                String word = s.substring(from, i);
                all.add(new Token(LANGUAGE.contains(word) ? word : word.length() > 6 ? "bad" : "own", word, from));
            } else if (c >= '0' && c <= '9') {
                while (i < s.length() && s.charAt(i) >= '0' && s.charAt(i) <= '9') {
                    i++;
                }
                all.add(new Token("number", s.substring(from, i), from));
            } else {
                String two = s.substring(i, Math.min(i + 2, s.length()));
                String sign = two.equals("<=") || two.equals(">=") || two.equals("<>") ? two : "" + c;
                i += sign.length();
                boolean good = sign.length() == 2 || ";()<=>+-*/".indexOf(c) >= 0;
                all.add(new Token(good ? sign : "bad", sign, from));
            }
        }
        all.add(new Token("end", "", s.length()));
        return all;
    }

    // ---- reading by descent

    static final class Descent {
        final List<Token> tokens;
        int at = 0;
        int open = 0;
        final Text text = new Text();

        Descent(List<Token> tokens) {
            this.tokens = tokens;
        }

        Token look() {
            return tokens.get(at);
        }

        boolean is(String... kinds) {
            return Arrays.asList(kinds).contains(look().kind());
        }

        Token take(String kind) {
            if (!is(kind)) {
                throw new Fault(1, look().place());
            }
            return tokens.get(at++);
        }

        int number(int least, int most) {
            Token t = take("number");
            BigInteger v = new BigInteger(t.said());
            if (v.compareTo(BigInteger.valueOf(least)) < 0 || v.compareTo(BigInteger.valueOf(most)) > 0) {
                throw new Fault(2, t.place());
            }
            return v.intValue();
        }

        void room(int has, int most) {
            if (has >= most) {
                throw new Fault(2, look().place());
            }
        }

        String fresh(List<String> names) {
            Token t = take("own");
            if (names.contains(t.said())) {
                throw new Fault(3, t.place());
            }
            return t.said();
        }

        int old(List<String> names) {
            Token t = take("own");
            if (!names.contains(t.said())) {
                throw new Fault(4, t.place());
            }
            return names.indexOf(t.said());
        }

        List<String> folkNames() {
            List<String> all = new ArrayList<>();
            for (Folk f : text.folk) {
                all.add(f.name());
            }
            return all;
        }

        Text text() {
            while (!is("end")) {
                line();
                take(";");
                text.lines++;
            }
            return text;
        }

        void line() {
            Token word = look();
            switch (word.kind()) {
                case "house" -> {
                    room(text.woods.size(), 6);
                    at++;
                    text.houseNames.add(fresh(text.houseNames));
                    text.woods.add(number(0, 99));
                }
                case "man" -> {
                    room(text.folk.size(), 8);
                    at++;
                    text.folk.add(new Folk(fresh(folkNames()), old(text.houseNames), number(0, 99), number(0, 7),
                            number(0, 20)));
                }
                case "add", "slice" -> {
                    room(text.deeds.size(), 14);
                    at++;
                    text.deeds.add(new Deed(word.kind().equals("slice"), old(text.houseNames), number(0, 7),
                            number(1, 20), number(0, 99)));
                }
                case "wed" -> {
                    room(text.weds.size(), 6);
                    at++;
                    int one = old(folkNames());
                    int place = look().place();
                    int other = old(folkNames());
                    if (one == other) {
                        throw new Fault(5, place);
                    }
                    text.weds.add(new Wed(one, other, number(0, 99)));
                }
                case "strip" -> {
                    room(text.strips.size(), 4);
                    at++;
                    text.strips.add(number(0, 99));
                }
                case "damp" -> {
                    once(text.damp);
                    text.damp = number(0, 100);
                }
                case "seed" -> {
                    once(text.seed);
                    text.seed = number(0, 99999);
                }
                case "law" -> {
                    at++;
                    if (!is("thick", "bear", "corn")) {
                        throw new Fault(1, look().place());
                    }
                    String kind = look().kind();
                    once(text.laws.get(kind));
                    open = 0;
                    text.laws.put(kind, either());
                }
                default -> throw new Fault(1, word.place());
            }
        }

        void once(Object told) {
            if (told != null) {
                throw new Fault(3, look().place());
            }
            at++;
        }

        void knot() {
            if (text.knots == 64) {
                throw new Fault(2, look().place());
            }
            text.knots++;
        }

        Tree over(Tree left, Tree right, String head) {
            return new Tree(head, List.of(left, right));
        }

        String sign() {
            knot();
            return tokens.get(at++).kind();
        }

        Tree either() {
            Tree left = both();
            while (is("or")) {
                String head = sign();
                left = over(left, both(), head);
            }
            return left;
        }

        Tree both() {
            Tree left = denied();
            while (is("and")) {
                String head = sign();
                left = over(left, denied(), head);
            }
            return left;
        }

        Tree denied() {
            if (is("not")) {
                sign();
                return new Tree("not", List.of(denied()));
            }
            Tree left = added();
            if (is("<", "<=", "=", "<>", ">=", ">")) {
                String head = sign();
                left = over(left, added(), head);
            }
            return left;
        }

        Tree added() {
            Tree left = scaled();
            while (is("+", "-")) {
                String head = sign();
                left = over(left, scaled(), head);
            }
            return left;
        }

        Tree scaled() {
            Tree left = part();
            while (is("*", "/")) {
                String head = sign();
                left = over(left, part(), head);
            }
            return left;
        }

        Tree part() {
            if (is("(")) {
                if (open == 8) {
                    throw new Fault(2, look().place());
                }
                open++;
                at++;
                Tree inner = either();
                take(")");
                open--;
                return inner;
            }
            if (is("number")) {
                knot();
                return new Tree("" + number(0, 9999), List.of());
            }
            if (NAMES.contains(look().kind())) {
                knot();
                return new Tree(tokens.get(at++).kind(), List.of());
            }
            throw new Fault(1, look().place());
        }
    }

    // ---- values

    static BigInteger worth(Tree e, Map<String, Integer> names) {
        if (e.parts().isEmpty()) {
            return names.containsKey(e.head()) ? BigInteger.valueOf(names.get(e.head())) : new BigInteger(e.head());
        }
        BigInteger a = worth(e.parts().get(0), names);
        if (e.head().equals("not")) {
            return a.signum() == 0 ? BigInteger.ONE : BigInteger.ZERO;
        }
        BigInteger b = worth(e.parts().get(1), names);
        int c = a.compareTo(b);
        BigInteger v = switch (e.head()) {
            case "+" -> a.add(b);
            case "-" -> a.subtract(b);
            case "*" -> a.multiply(b);
            case "/" -> {
                if (b.signum() == 0) {
                    throw new Broken();
                }
                yield a.divide(b);
            }
            default -> BigInteger.valueOf(switch (e.head()) {
                case "or" -> a.signum() != 0 || b.signum() != 0;
                case "and" -> a.signum() != 0 && b.signum() != 0;
                case "<" -> c < 0;
                case "<=" -> c <= 0;
                case "=" -> c == 0;
                case "<>" -> c != 0;
                case ">=" -> c >= 0;
                default -> c > 0;
            } ? 1 : 0);
        };
        if (v.abs().compareTo(MOST) > 0) {
            throw new Broken();
        }
        return v;
    }

    /** NULL: no such law, or an ERROR. */
    Long lawWorth(String kind, Map<String, Integer> names) {
        if (!text.laws.containsKey(kind)) {
            return null;
        }
        try {
            return worth(text.laws.get(kind), names).longValue();
        } catch (Broken e) {
            return null;
        }
    }

    static int cut(Long value, int most, int otherwise) {
        return value == null ? otherwise : (int) Math.min(most, Math.max(0L, value));
    }

    Map<String, Integer> deedNames(World w, Deed d) {
        Map<String, Integer> names = new HashMap<>();
        names.put("by", d.by());
        names.put("zone", d.zone());
        names.put("much", w.last(d.house(), d.zone()));
        names.put("pinch", 0);
        names.put("corns", 0);
        names.put("layers", w.layers.get(d.house()).size());
        names.put("year", w.year);
        return names;
    }

    Map<String, Integer> manNames(World w, int m) {
        Map<String, Integer> names = new HashMap<>();
        int zone = text.folk.get(m).zone();
        names.put("by", 0);
        names.put("zone", zone);
        names.put("much", w.last(w.house[m], zone));
        names.put("pinch", pinch(w, m));
        names.put("corns", w.corns[m]);
        names.put("layers", w.layers.get(w.house[m]).size());
        names.put("year", w.year);
        return names;
    }

    // ---- the world

    static World begin(Text t) {
        World w = new World();
        int h = t.woods.size();
        int f = t.folk.size();
        w.number = t.seed == null ? 0 : t.seed;
        w.wood = new int[h][8];
        for (int i = 0; i < h; i++) {
            Arrays.fill(w.wood[i], t.woods.get(i));
            w.layers.add(new ArrayList<>());
        }
        w.house = new int[f];
        w.bump = new int[f];
        w.corns = new int[f];
        w.wed = new boolean[f];
        for (int m = 0; m < f; m++) {
            w.house[m] = t.folk.get(m).house();
            w.bump[m] = t.folk.get(m).bump();
        }
        return w;
    }

    int foot(World w, int m, int z) {
        Folk f = text.folk.get(m);
        return f.wide() + (f.zone() == z ? w.bump[m] : 0);
    }

    int pinch(World w, int m) {
        int all = 0;
        for (int z = 0; z < 8; z++) {
            int more = foot(w, m, z) - w.last(w.house[m], z);
            if (more > 0) {
                all += more;
            }
        }
        return all;
    }

    int far(World w, int m, int h) {
        int all = 0;
        for (int z = 0; z < 8; z++) {
            all += Math.abs(foot(w, m, z) - w.last(h, z));
        }
        return all;
    }

    int like(World w, int a, int b) {
        int all = 0;
        for (int z = 0; z < 8; z++) {
            all += Math.abs(w.last(a, z) - w.last(b, z));
        }
        return all;
    }

    /** way: as tried() numbers them, 5 as it goes, 6 by numbers. */
    void year(World w, int way) {
        for (Deed d : text.deeds) {
            if (d.year() == w.year && way != 1) {
                int by = cut(lawWorth("thick", deedNames(w, d)), 20, d.by());
                if (w.layers.get(d.house()).size() == 12) {
                    w.refused++;
                } else {
                    w.layers.get(d.house()).add(new int[] {d.zone(), d.slice() ? -by : by});
                }
            }
        }
        for (Wed v : text.weds) {
            if (v.year() == w.year && way != 3) {
                wed(w, v.one(), v.other());
            }
        }
        for (int m = 0; m < w.house.length; m++) {
            Map<String, Integer> names = manNames(w, m);
            int bear = way == 4 ? 0 : cut(lawWorth("bear", names), 999, 10);
            if (names.get("pinch") > bear) {
                int more = cut(lawWorth("corn", names), 9, 1);
                w.corns[m] = Math.min(999, w.corns[m] + 1);
                w.bump[m] = Math.min(60, w.bump[m] + more);
            }
        }
        if (damp(w, way)) {
            for (int[] row : w.wood) {
                for (int z = 0; z < 8; z++) {
                    row[z] = Math.min(999, row[z] + 1);
                }
            }
        }
        if (text.strips.contains(w.year)) {
            for (int h = 0; h < w.wood.length; h++) {
                Arrays.fill(w.wood[h], text.woods.get(h));
                w.layers.get(h).clear();
            }
        }
        w.year++;
    }

    void wed(World w, int one, int other) {
        int a = w.house[one];
        int b = w.house[other];
        if (w.wed[one] || w.wed[other] || a == b) {
            w.refused++;
            return;
        }
        int[] wood = new int[8];
        for (int z = 0; z < 8; z++) {
            wood[z] = (w.last(a, z) + w.last(b, z)) / 2;
        }
        w.wood[a] = wood;
        w.layers.get(a).clear();
        w.house[other] = a;
        w.wed[one] = true;
        w.wed[other] = true;
    }

    boolean damp(World w, int way) {
        int damp = text.damp();
        if (way == 0) {
            return false;
        }
        if (way != 6) {
            return damp >= 50;
        }
        if (damp == 0 || damp == 100) {
            return damp == 100;
        }
        w.number = (w.number * 1103515245L + 12345L) % (1L << 31);
        return w.number / 65536 % 100 < damp;
    }

    World after(World from, int n, int way) {
        World w = from.copy();
        for (int i = 0; i < n; i++) {
            year(w, way);
        }
        return w;
    }

    static int total(int[] row) {
        int all = 0;
        for (int v : row) {
            all += v;
        }
        return all;
    }

    boolean house(int h) {
        return h >= 0 && h < text.woods.size();
    }

    boolean folk(int m) {
        return m >= 0 && m < text.folk.size();
    }

    static boolean in(int v, int least, int most) {
        return v >= least && v <= most;
    }

    // ---- the calls

    int feed(int... five) {
        if (tape.size() > 680) {
            return -1;
        }
        for (int v : five) {
            for (int k = 3; k >= 0; k--) {
                tape.add(v >>> 8 * k & 255);
            }
        }
        return tape.size();
    }

    int text(int n) {
        if (n < 0 || n > tape.size()) {
            return -2;
        }
        StringBuilder said = new StringBuilder();
        for (int i = 0; i < n; i++) {
            said.append((char) (int) tape.get(i));
        }
        tape.clear();
        try {
            text = new Descent(cut(said.toString())).text();
        } catch (Fault f) {
            fault = f.kind;
            faultPlace = f.place;
            return -1;
        }
        fault = 0;
        faultPlace = -1;
        now = begin(text);
        image = null;
        undo.clear();
        seen.clear();
        known = -1;
        return text.lines;
    }

    int fault(int what) {
        return what == 0 ? fault : what == 1 ? faultPlace : -1;
    }

    int named(int what, int letters) {
        List<String> names = new ArrayList<>();
        if (what == 0) {
            names = text.houseNames;
        } else if (what == 1) {
            for (Folk f : text.folk) {
                names.add(f.name());
            }
        }
        for (int i = 0; i < names.size(); i++) {
            if (Tester.letters(names.get(i)) == letters) {
                return i;
            }
        }
        return -1;
    }

    int man(int m, int what) {
        if (!folk(m)) {
            return 1000001;
        }
        Folk f = text.folk.get(m);
        return switch (what) {
            case 0 -> now.house[m];
            case 1 -> f.wide();
            case 2 -> f.zone();
            case 3 -> now.bump[m];
            case 4 -> now.corns[m];
            case 5 -> now.wed[m] ? 1 : 0;
            case 6 -> pinch(now, m);
            default -> 1000002;
        };
    }

    int last(int h, int z) {
        return house(h) && in(z, 0, 7) ? now.last(h, z) : Integer.MIN_VALUE;
    }

    int layer(int h, int k, int what) {
        if (!house(h) || !in(what, 0, 2)) {
            return Integer.MIN_VALUE;
        }
        List<int[]> row = now.layers.get(h);
        if (what == 0) {
            return row.size();
        }
        return in(k, 0, row.size() - 1) ? row.get(k)[what - 1] : Integer.MIN_VALUE;
    }

    int far(int m, int h) {
        return folk(m) && house(h) ? far(now, m, h) : -1;
    }

    long law(int what, int i) {
        Long v = null;
        if (what == 0 && in(i, 0, text.deeds.size() - 1)) {
            v = lawWorth("thick", deedNames(now, text.deeds.get(i)));
        } else if (what == 1 && folk(i)) {
            v = lawWorth("bear", manNames(now, i));
        } else if (what == 2 && folk(i)) {
            v = lawWorth("corn", manNames(now, i));
        }
        return v == null ? Long.MIN_VALUE : v;
    }

    void remember() {
        undo.add(now.copy());
        if (undo.size() > 20) {
            undo.remove(0);
        }
    }

    int lay(int h, int z, int by) {
        if (!house(h) || !in(z, 0, 7) || !in(by, -20, 20) || by == 0 || now.layers.get(h).size() == 12) {
            return Integer.MIN_VALUE;
        }
        remember();
        now.layers.get(h).add(new int[] {z, by});
        return now.last(h, z);
    }

    int peel(int h) {
        if (!house(h) || now.layers.get(h).isEmpty()) {
            return -1;
        }
        remember();
        List<int[]> row = now.layers.get(h);
        row.remove(row.size() - 1);
        return row.size();
    }

    boolean move(int m, int h) {
        if (!folk(m) || !house(h) || now.house[m] == h) {
            return false;
        }
        remember();
        now.house[m] = h;
        return true;
    }

    int go(int n) {
        if (!in(n, 0, 200) || now.year + n > 9000) {
            return -1;
        }
        if (n > 0) {
            undo.clear();
        }
        now = after(now, n, 6);
        return now.year;
    }

    int ahead(int n, int what, int i) {
        if (!in(n, 0, 200) || !in(what, 0, 4) || what == 1 && !folk(i) || what == 2 && !house(i)) {
            return Integer.MIN_VALUE;
        }
        World w = after(now, n, 5);
        return switch (what) {
            case 0 -> total(w.corns) - total(now.corns);
            case 1 -> w.corns[i];
            case 2 -> w.lastSum(i);
            case 3 -> wedCount(w);
            default -> w.refused - now.refused;
        };
    }

    static int wedCount(World w) {
        int all = 0;
        for (boolean b : w.wed) {
            all += b ? 1 : 0;
        }
        return all;
    }

    int firstCorn(int what) {
        if (!in(what, 0, 1)) {
            return -1;
        }
        World w = now.copy();
        for (int n = 1; n <= 199; n++) {
            year(w, 5);
            for (int m = 0; m < w.corns.length; m++) {
                if (w.corns[m] > now.corns[m]) {
                    return what == 0 ? n : m;
                }
            }
        }
        return -2;
    }

    int nearest(int m) {
        if (!folk(m)) {
            return -1;
        }
        int best = -2;
        for (int h = text.woods.size() - 1; h >= 0; h--) {
            if (best < 0 || far(now, m, h) <= far(now, m, best)) {
                best = h;
            }
        }
        return best;
    }

    boolean two(int a, int b) {
        return house(a) && house(b) && a != b;
    }

    int likeness(int a, int b) {
        return two(a, b) ? like(now, a, b) : -1;
    }

    int heart(int z) {
        if (!in(z, 0, 7) || text.woods.isEmpty()) {
            return Integer.MIN_VALUE;
        }
        int least = Integer.MAX_VALUE;
        for (int h = 0; h < text.woods.size(); h++) {
            least = Math.min(least, now.last(h, z));
        }
        return least;
    }

    int ease(int m, int n) {
        if (!folk(m) || !in(n, 0, 9999)) {
            return -1;
        }
        int h = now.house[m];
        List<int[]> row = now.layers.get(h);
        for (int few = 0; few <= row.size(); few++) {
            for (int bits = 0; bits < 1 << row.size(); bits++) {
                if (Integer.bitCount(bits) == few) {
                    World w = now.copy();
                    w.layers.get(h).clear();
                    for (int k = 0; k < row.size(); k++) {
                        if ((bits >> k & 1) == 0) {
                            w.layers.get(h).add(row.get(k));
                        }
                    }
                    if (far(w, m, h) <= n) {
                        return bits;
                    }
                }
            }
        }
        return -2;
    }

    private int[] bestPairs;
    private int bestMany;
    private int bestFar;

    void pairs(int h, int[] who, int many, int sum) {
        if (h == text.woods.size()) {
            if (bestPairs == null || many > bestMany || many == bestMany && sum < bestFar) {
                bestPairs = who.clone();
                bestMany = many;
                bestFar = sum;
            }
            return;
        }
        for (int m = 0; m <= text.folk.size(); m++) {
            boolean none = m == text.folk.size();
            boolean taken = false;
            for (int k = 0; k < h; k++) {
                taken |= who[k] == m && !none;
            }
            if (!taken) {
                who[h] = none ? -2 : m;
                pairs(h + 1, who, none ? many : many + 1, none ? sum : sum + far(now, m, h));
            }
        }
    }

    int match(int what) {
        if (!in(what, 0, 7)) {
            return -1;
        }
        bestPairs = null;
        pairs(0, new int[text.woods.size()], 0, 0);
        if (what == 6) {
            return bestMany;
        }
        if (what == 7) {
            return bestFar;
        }
        return what < bestPairs.length ? bestPairs[what] : -2;
    }

    /** By the least edges that join what is apart. */
    int join() {
        List<int[]> edges = new ArrayList<>();
        int[] group = new int[text.woods.size()];
        for (int a = 0; a < group.length; a++) {
            group[a] = a;
            for (int b = 0; b < a; b++) {
                edges.add(new int[] {like(now, a, b), a, b});
            }
        }
        edges.sort((x, y) -> Integer.compare(x[0], y[0]));
        int all = 0;
        for (int[] e : edges) {
            int a = group[e[1]];
            int b = group[e[2]];
            if (a != b) {
                all += e[0];
                for (int k = 0; k < group.length; k++) {
                    group[k] = group[k] == b ? a : group[k];
                }
            }
        }
        return all;
    }

    private final Map<List<Integer>, Boolean> won = new HashMap<>();

    boolean wins(List<Integer> piles) {
        List<Integer> key = new ArrayList<>(piles);
        key.sort(null);
        if (!won.containsKey(key)) {
            won.put(key, winning(key) != null);
        }
        return won.get(key);
    }

    int[] winning(List<Integer> piles) {
        for (int h = 0; h < piles.size(); h++) {
            for (int off = 1; off <= 3 && off <= piles.get(h); off++) {
                List<Integer> next = new ArrayList<>(piles);
                next.set(h, piles.get(h) - off);
                if (!wins(next)) {
                    return new int[] {h, off};
                }
            }
        }
        return null;
    }

    int game(int what) {
        if (!in(what, 0, 2)) {
            return -1;
        }
        List<Integer> piles = new ArrayList<>();
        for (List<int[]> row : now.layers) {
            piles.add(row.size());
        }
        int[] move = winning(piles);
        return what == 0 ? move == null ? 1 : 0 : move == null ? -2 : move[what - 1];
    }

    List<Integer> restsOf(int a, int b) {
        int like = like(now, a, b);
        int la = now.layers.get(a).size();
        int lb = now.layers.get(b).size();
        int[][] first = {{20 - la, like / 4}, {la, like / 8}};
        int[][] second = {{20 - lb, lb}, {like / 4, like / 8}};
        List<Integer> all = new ArrayList<>();
        for (int i = 0; i < 2; i++) {
            for (int j = 0; j < 2; j++) {
                if (first[1 - i][j] <= first[i][j] && second[i][1 - j] <= second[i][j]) {
                    all.add(10 * i + j);
                }
            }
        }
        return all;
    }

    int rests(int a, int b) {
        return two(a, b) ? restsOf(a, b).size() : -1;
    }

    int rest(int a, int b, int k) {
        if (!two(a, b) || k < 0) {
            return -1;
        }
        List<Integer> all = restsOf(a, b);
        return k < all.size() ? all.get(k) : -2;
    }

    long dry(int n, int what) {
        if (!in(n, 0, 6) || !in(what, 0, 1)) {
            return -1;
        }
        BigInteger above = BigInteger.valueOf(100 - text.damp()).pow(n);
        BigInteger below = BigInteger.valueOf(100).pow(n);
        BigInteger shared = above.gcd(below);
        return (what == 0 ? above : below).divide(shared).longValue();
    }

    int sum(int h) {
        return house(h) ? now.lastSum(h) : Integer.MIN_VALUE;
    }

    int settle(int a, int b, int z) {
        return two(a, b) && in(z, 0, 7) ? (now.last(a, z) + now.last(b, z)) / 2 : Integer.MIN_VALUE;
    }

    int knee() {
        int best = -2;
        for (int h = 0; h < now.layers.size(); h++) {
            if (best < 0 || now.layers.get(h).size() > now.layers.get(best).size()) {
                best = h;
            }
        }
        return best;
    }

    int walkers() {
        int bits = 0;
        for (int m = 0; m < now.house.length; m++) {
            bits += pinch(now, m) == 0 ? 1 << m : 0;
        }
        return bits;
    }

    int barest() {
        int best = -2;
        int least = Integer.MAX_VALUE;
        for (int m = 0; m < now.house.length; m++) {
            int all = 0;
            for (int z = 0; z < 8; z++) {
                all += foot(now, m, z);
            }
            if (all < least) {
                least = all;
                best = m;
            }
        }
        return best;
    }

    int see(int years, int m, int corns, boolean atLeast) {
        if (!in(years, 1, 60) || !folk(m) || !in(corns, 0, 99) || seen.size() == 24) {
            return -1;
        }
        seen.add(new Sight(years, m, corns, atLeast, -1));
        return seen.size() - 1;
    }

    int strike(int which) {
        if (!in(which, 0, seen.size() - 1) || seen.size() == 24) {
            return -1;
        }
        seen.add(new Sight(0, 0, 0, false, which));
        return seen.size() - 1;
    }

    boolean known(int n) {
        if (!in(n, -1, seen.size())) {
            return false;
        }
        known = n;
        return true;
    }

    List<Integer> bumpsOf(int m) {
        int n = known < 0 ? seen.size() : known;
        Set<Integer> struck = new HashSet<>();
        for (int k = n - 1; k >= 0; k--) {
            if (seen.get(k).strikes() >= 0 && !struck.contains(k)) {
                struck.add(seen.get(k).strikes());
            }
        }
        List<Integer> all = new ArrayList<>();
        for (int bump = 0; bump <= 20; bump++) {
            boolean good = true;
            World w = begin(text);
            w.bump[m] = bump;
            List<int[]> corns = new ArrayList<>();
            for (int year = 0; year <= 60; year++) {
                corns.add(w.corns.clone());
                year(w, 5);
            }
            for (int k = 0; k < n; k++) {
                Sight s = seen.get(k);
                if (s.strikes() < 0 && !struck.contains(k)) {
                    boolean more = corns.get(s.years())[s.man()] >= s.corns();
                    good &= more == s.atLeast();
                }
            }
            if (good) {
                all.add(bump);
            }
        }
        return all;
    }

    int bumps(int m) {
        if (!folk(m)) {
            return -1;
        }
        int bits = 0;
        for (int bump : bumpsOf(m)) {
            bits |= 1 << bump;
        }
        return bits;
    }

    int ask(int m, int n, int what) {
        if (!folk(m) || !in(n, 1, 60) || !in(what, 0, 1)) {
            return -1;
        }
        List<Integer> had = new ArrayList<>();
        for (int bump : bumpsOf(m)) {
            World w = begin(text);
            w.bump[m] = bump;
            had.add(after(w, n, 5).corns[m]);
        }
        int best = 0;
        int bestLeft = Integer.MAX_VALUE;
        for (int corns = 1; corns <= 60; corns++) {
            int yes = 0;
            for (int h : had) {
                yes += h >= corns ? 1 : 0;
            }
            int left = Math.max(yes, had.size() - yes);
            if (left < bestLeft) {
                best = corns;
                bestLeft = left;
            }
        }
        return what == 0 ? best : bestLeft;
    }

    int chance(int seed, int n, int m, int corns) {
        if (seed < 0 || !in(n, 1, 99) || !folk(m) || !in(corns, 0, 99)) {
            return -1;
        }
        long number = seed;
        int all = 0;
        for (int k = 0; k < 10; k++) {
            World w = now.copy();
            w.number = number;
            w = after(w, n, 6);
            number = w.number;
            all += w.corns[m] >= corns ? 1 : 0;
        }
        return all;
    }

    int tried(int what, int i, int n) {
        if (!in(what, 0, 4) || !in(n, 0, 200) || (what == 2 ? !house(i) : i != 0)) {
            return -1;
        }
        World w = now.copy();
        if (what == 2) {
            Arrays.fill(w.wood[i], text.woods.get(i));
            w.layers.get(i).clear();
        }
        return total(after(w, n, what).corns) - total(now.corns);
    }

    int undo() {
        if (undo.isEmpty()) {
            return -1;
        }
        now = undo.remove(undo.size() - 1);
        return undo.size();
    }

    int keep() {
        image = now.copy();
        return now.year;
    }

    int back() {
        if (image == null) {
            return -1;
        }
        now = image.copy();
        undo.clear();
        return now.year;
    }

    int count(int what) {
        int layers = 0;
        for (List<int[]> row : now.layers) {
            layers += row.size();
        }
        int pinch = 0;
        for (int m = 0; m < now.house.length; m++) {
            pinch += pinch(now, m);
        }
        return switch (what) {
            case 0 -> text.woods.size();
            case 1 -> text.folk.size();
            case 2 -> text.deeds.size();
            case 3 -> text.knots;
            case 4 -> now.year;
            case 5 -> total(now.corns);
            case 6 -> layers;
            case 7 -> wedCount(now);
            case 8 -> now.refused;
            case 9 -> pinch;
            case 10 -> seen.size();
            case 11 -> known < 0 ? seen.size() : known;
            case 12 -> undo.size();
            default -> -1;
        };
    }
}
