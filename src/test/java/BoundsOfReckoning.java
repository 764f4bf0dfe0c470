/** The boundary cases of matching, joining, the game, rasping and dry years: promises 21 to 26. */
public final class BoundsOfReckoning {
    private static final int NONE = LastHouse.NONE;
    private static final int LEAST = Integer.MIN_VALUE;
    private static final int MOST = Integer.MAX_VALUE;
    private static final int[] NEVER = {LEAST, LEAST + 1, -1000, -2, -1, 6, 7, 8, 100, 1 << 16, 1 << 30, MOST - 1, MOST};
    private static Sentences s;

    public static void main(String[] args) throws Exception {
        s = new Sentences(21, 22, 23, 24, 25, 26);
        match();
        matchOfAll();
        matchFirst();
        join();
        game();
        gameByAllRows();
        gameOfNone();
        rests();
        rest();
        dry();
        s.end();
    }

    private static void due(String call, long got, long want) {
        s.due(call, got, want);
    }

    private static LastHouse told(String text) {
        return Tester.told(text);
    }

    private static void matched(String text, String want) {
        LastHouse x = told(text);
        StringBuilder row = new StringBuilder();
        for (int what = 0; what <= 7; what++) {
            row.append(what == 0 ? "" : ",").append(x.match(what));
        }
        s.dueRow("match() of " + text, row.toString(), want);
    }

    private static void match() {
        s.says(21, "MATCH, what 0 .. 5: who for that HOUSE (-2: none, there are not so many), 6: how many have one, 7: FAR in sum.");
        matched("", "-2,-2,-2,-2,-2,-2,0,0");
        matched("house a 1;", "-2,-2,-2,-2,-2,-2,0,0");
        matched("house a 1;house b 1;house c 1;house d 1;house e 1;house f 1;", "-2,-2,-2,-2,-2,-2,0,0");
        matched("house a 0;man m a 99 7 20;", "0,-2,-2,-2,-2,-2,1,812");
        matched("house a 1;house b 1;house c 1;house d 1;house e 1;house f 1;man m f 1 0 0;", "0,-2,-2,-2,-2,-2,1,0");
        matched("house a 1;house b 1;house c 1;house d 1;house e 1;house f 2;man m a 2 0 0;", "-2,-2,-2,-2,-2,0,1,0");
        matched("house a 1;man m a 9 0 0;man n a 1 0 0;man o a 1 0 0;", "1,-2,-2,-2,-2,-2,1,0");
        s.says(21, "NONE for another what.");
        LastHouse x = told("house a 1;man m a 1 0 0;");
        for (int what : new int[] {-1, -2, 8, LEAST, MOST}) {
            due("match(" + what + ")", x.match(what), NONE);
            due("match(" + what + ") of a new object", new LastHouse().match(what), NONE);
        }
    }

    private static void matchOfAll() {
        s.says(21, "for each HOUSE one of the FOLK (of whichever HOUSE) or none, none for two, so that as many as may be have one, "
                + "then that FAR of these in sum is least");
        // Six houses and eight folk, the last six of whom are as wide as the houses are, turned round.
        matched("house a 60;house b 50;house c 40;house d 30;house e 20;house f 10;man a a 99 0 0;man b a 99 0 0;man c a 10 0 0;"
                + "man d a 20 0 0;man e a 30 0 0;man f a 40 0 0;man g a 50 0 0;man h a 60 0 0;", "7,6,5,4,3,2,6,0");
        // However far they are, as many as may be have one.
        matched("house a 0;house b 99;man m a 0 0 0;man n a 0 0 20;", "0,1,-2,-2,-2,-2,2," + (8 * 99 - 20));
        // Not the nearest for the first house, for the sum is less otherwise.
        matched("house a 10;house b 20;man m b 12 0 0;man n a 7 0 0;", "1,0,-2,-2,-2,-2,2," + 8 * (3 + 8));
        matched("house a 10;house b 20;man m b 12 0 0;man n a 0 0 0;", "1,0,-2,-2,-2,-2,2," + 8 * (10 + 8));
    }

    private static void matchFirst() {
        s.says(21, "of several the first by HOUSES (FOLK by numbers, none is last)");
        matched("house a 5;house b 5;house c 5;man m a 5 0 0;man n a 5 0 0;man o a 5 0 0;", "0,1,2,-2,-2,-2,3,0");
        matched("house a 5;house b 5;house c 5;man m a 5 0 0;man n a 5 0 0;", "0,1,-2,-2,-2,-2,2,0");
        matched("house a 5;house b 5;man m a 5 0 0;man n a 5 0 0;man o a 5 0 0;", "0,1,-2,-2,-2,-2,2,0");
        // Either one for either house, in sum as far: the first for the first.
        matched("house a 5;house b 6;man m a 7 0 0;man n a 8 0 0;", "0,1,-2,-2,-2,-2,2,32");
        // One who is between two houses: the first house, none is last.
        matched("house a 4;house b 6;man m a 5 0 0;", "0,-2,-2,-2,-2,-2,1,8");
    }

    private static void join() {
        s.says(22, "JOIN (0: there is one HOUSE, or none).");
        due("none", new LastHouse().join(), 0);
        due("none, with lines", told("damp 3;").join(), 0);
        due("one", told("house a 99;").join(), 0);
        LastHouse one = told("house a 99;");
        one.lay(0, 0, 5);
        due("one, with a layer", one.join(), 0);
        due("two", told("house a 0;house b 99;").join(), 792);
        due("two that don't differ", told("house a 9;house b 9;").join(), 0);
        due("six in a row", told("house a 0;house b 99;house c 1;house d 98;house e 2;house f 97;").join(), 792);
        due("six that don't differ", told("house a 9;house b 9;house c 9;house d 9;house e 9;house f 9;").join(), 0);
        // Three that differ by 2 each, two pairs are enough.
        LastHouse three = told("house a 9;house b 9;house c 9;");
        for (int h = 0; h < 3; h++) {
            three.lay(h, h, 1);
        }
        due("three", three.join(), 4);
        due("three again", three.join(), 4);
        three.lay(0, 0, 20);
        due("three, one farther off", three.join(), 24);
    }

    private static void game() {
        s.says(23, "GAME, what 0: who wins (0: who begins, 1: the other one), 1: the HOUSE from whose LAST who begins takes first, "
                + "the first of several, 2: how many, the fewest (of 1, 2: -2: who begins can't win).");
        played(new int[] {1}, "0,0,1");
        played(new int[] {2}, "0,0,2");
        played(new int[] {3}, "0,0,3");
        played(new int[] {4}, "1,-2,-2");
        played(new int[] {5}, "0,0,1");
        played(new int[] {11}, "0,0,3");
        played(new int[] {12}, "1,-2,-2");
        played(new int[] {1, 1}, "1,-2,-2");
        played(new int[] {1, 5}, "1,-2,-2");
        played(new int[] {12, 12, 12, 12, 12, 12}, "1,-2,-2");
        played(new int[] {0, 0, 0, 0, 0, 12}, "1,-2,-2");
        played(new int[] {0, 0, 0, 0, 0, 11}, "0,5,3");
        played(new int[] {1, 2, 3}, "1,-2,-2");
        played(new int[] {1, 2, 4}, "0,1,1");
        // Three off four leave one: a row that counts for nothing is as good as another, and comes first.
        played(new int[] {4, 1}, "0,0,3");
        played(new int[] {0, 4, 1}, "0,1,3");
        played(new int[] {2, 2, 3}, "0,0,1");
        s.says(23, "NONE for another what.");
        LastHouse x = told("house a 1;");
        for (int what : new int[] {-1, -2, 3, LEAST, MOST}) {
            due("game(" + what + ")", x.game(what), NONE);
            due("game(" + what + ") of a new object", new LastHouse().game(what), NONE);
        }
    }

    private static LastHouse rows(int[] layers) {
        StringBuilder text = new StringBuilder();
        for (int h = 0; h < layers.length; h++) {
            text.append("house ").append((char) ('a' + h)).append(" 9;");
        }
        LastHouse x = told(text.toString());
        for (int h = 0; h < layers.length; h++) {
            for (int k = 0; k < layers[h]; k++) {
                x.lay(h, k % 8, 1);
            }
        }
        return x;
    }

    private static void played(int[] layers, String want) {
        LastHouse x = rows(layers);
        s.dueRow("game() of " + java.util.Arrays.toString(layers), x.game(0) + "," + x.game(1) + "," + x.game(2), want);
    }

    /** The place of a game among all games of so many lasts, behind all that can be come to from it. */
    private static int place(int[] layers) {
        int at = 0;
        for (int many : layers) {
            at = at * 13 + many;
        }
        return at;
    }

    /** Who begins wins, if some move leaves a game that who begins there loses: all games of less layers are looked at. */
    private static String best(int[] layers) {
        int all = 1;
        for (int h = 0; h < layers.length; h++) {
            all *= 13;
        }
        boolean[] won = new boolean[all];
        String found = "1,-2,-2";
        for (int at = 0; at <= place(layers); at++) {
            int[] game = new int[layers.length];
            int left = at;
            for (int h = layers.length - 1; h >= 0; h--) {
                game[h] = left % 13;
                left /= 13;
            }
            found = "1,-2,-2";
            for (int h = 0; h < game.length && !won[at]; h++) {
                for (int off = 1; off <= 3 && off <= game[h] && !won[at]; off++) {
                    game[h] -= off;
                    if (!won[place(game)]) {
                        won[at] = true;
                        found = "0," + h + "," + off;
                    }
                    game[h] += off;
                }
            }
        }
        return found;
    }

    private static void gameByAllRows() {
        s.says(23, "two by turns take 1, 2 or 3 LAYERS off one LAST, till there are none; who takes the last one, wins");
        for (int many = 0; many <= 12; many++) {
            played(new int[] {many}, best(new int[] {many}));
            for (int more = 0; more <= 12; more++) {
                played(new int[] {many, more}, best(new int[] {many, more}));
                int[] three = {many, more, (many * 5 + more * 3) % 13};
                played(three, best(three));
            }
        }
    }

    private static void gameOfNone() {
        s.says(23, "(if there are none at first, the other one)");
        LastHouse none = new LastHouse();
        s.dueRow("no houses", none.game(0) + "," + none.game(1) + "," + none.game(2), "1,-2,-2");
        played(new int[] {0}, "1,-2,-2");
        played(new int[] {0, 0, 0, 0, 0, 0}, "1,-2,-2");
    }

    /** Two houses with so many layers, whose lasts differ the more, the more layers there are. */
    private static LastHouse pair(int first, int second) {
        LastHouse x = told("house a 50;house b 50;");
        for (int k = 0; k < first; k++) {
            x.lay(0, k % 8, 1 + k % 3);
        }
        for (int k = 0; k < second; k++) {
            x.lay(1, k % 8, -1 - 5 * (k % 4));
        }
        return x;
    }

    private static String rested(LastHouse x, int one, int other) {
        StringBuilder row = new StringBuilder().append(x.rests(one, other));
        for (int k = 0; k < 5; k++) {
            row.append(",").append(x.rest(one, other, k));
        }
        return row.toString();
    }

    /** The rests by the document's words, from how many layers and the likeness. */
    private static String restsBy(int first, int second, int like) {
        int[][] one = {{20 - first, like / 4}, {first, like / 8}};
        int[][] two = {{20 - second, second}, {like / 4, like / 8}};
        StringBuilder row = new StringBuilder();
        int many = 0;
        for (int i = 0; i < 2; i++) {
            for (int j = 0; j < 2; j++) {
                if (one[i][j] >= one[1 - i][j] && two[i][j] >= two[i][1 - j]) {
                    row.append(",").append(10 * i + j);
                    many++;
                }
            }
        }
        return many + row.toString() + ",-2".repeat(5 - many);
    }

    private static void rests() {
        s.says(24, "How many RESTS RASP has;");
        for (int first = 0; first <= 12; first++) {
            for (int second = 0; second <= 12; second++) {
                LastHouse x = pair(first, second);
                int like = x.likeness(0, 1);
                s.dueRow(first + " and " + second + " layers, " + like, rested(x, 0, 1), restsBy(first, second, like));
                s.dueRow("the other way round", rested(x, 1, 0), restsBy(second, first, like));
            }
        }
        s.says(24, "A REST: neither would have more otherwise.");
        // Ten layers each, nothing differs: both rasp 10, who yields to a rasp 10, else 0: as much isn't more.
        s.dueRow("ten and ten", rested(rows(new int[] {10, 10}), 0, 1), "4,0,1,10,11,-2");
        s.dueRow("nine and nine", rested(rows(new int[] {9, 9}), 0, 1), "2,0,11,-2,-2,-2");
        s.dueRow("eleven and eleven", rested(rows(new int[] {11, 11}), 0, 1), "3,1,10,11,-2,-2");
        s.dueRow("ten and nine", rested(rows(new int[] {10, 9}), 0, 1), "3,0,10,11,-2,-2");
        s.says(24, "it has LIKENESS by 4, cut, the other one how many LAYERS it has; both yield: each LIKENESS by 8, cut.");
        LastHouse x = told("house a 50;house b 50;");
        int[] differ = {3, 1, 3, 1};
        String[] want = {"2,0,11,-2,-2,-2", "1,0,-2,-2,-2,-2", "1,0,-2,-2,-2,-2", "1,0,-2,-2,-2,-2"};
        // 3 by 4 and by 8 are 0 both, 4 by 4 is 1, 7 by 4 is 1 and by 8 0, 8 by 4 is 2 and by 8 1.
        for (int k = 0; k < 4; k++) {
            x.lay(0, 0, differ[k]);
            s.dueRow("likeness " + x.likeness(0, 1), rested(x, 0, 1), want[k]);
        }
        s.says(24, "NONE: no such HOUSES, alike.");
        noTwo(x, true);
    }

    private static void noTwo(LastHouse x, boolean many) {
        for (int k : NEVER) {
            due("(" + k + ", 0)", many ? x.rests(k, 0) : x.rest(k, 0, 0), NONE);
            due("(0, " + k + ")", many ? x.rests(0, k) : x.rest(0, k, 0), NONE);
            due("(" + k + ", " + k + ")", many ? x.rests(k, k) : x.rest(k, k, 0), NONE);
        }
        due("(0, 0)", many ? x.rests(0, 0) : x.rest(0, 0, 0), NONE);
        due("(1, 1)", many ? x.rests(1, 1) : x.rest(1, 1, 0), NONE);
        due("(0, 2)", many ? x.rests(0, 2) : x.rest(0, 2, 0), NONE);
        due("(2, 1)", many ? x.rests(2, 1) : x.rest(2, 1, 0), NONE);
        LastHouse none = new LastHouse();
        due("no houses", many ? none.rests(0, 1) : none.rest(0, 1, 0), NONE);
    }

    private static void rest() {
        s.says(25, "The k-th: ten times the first one's and the second one's;");
        LastHouse x = rows(new int[] {10, 10});
        int[] all = {0, 1, 10, 11};
        for (int k = 0; k < 4; k++) {
            due("rest(0, 1, " + k + ")", x.rest(0, 1, k), all[k]);
        }
        s.says(25, "-2: there are no so many;");
        due("a fifth", x.rest(0, 1, 4), -2);
        due("k most", x.rest(0, 1, MOST), -2);
        due("a second of one", rows(new int[] {0, 0, 0}).rest(0, 1, 2), -2);
        s.says(25, "NONE likewise, k is below 0.");
        noTwo(x, false);
        for (int k : new int[] {-1, -2, LEAST}) {
            due("rest(0, 1, " + k + ")", x.rest(0, 1, k), NONE);
        }
        due("alike, k most", x.rest(1, 1, MOST), NONE);
    }

    private static void dry() {
        s.says(26, "DRY (n 0 .. 6) in least terms, what 0: the number above, 1: the one below.");
        fraction("", 0, 1, 1);
        fraction("", 6, 1, 1);
        fraction("damp 0;", 6, 1, 1);
        fraction("damp 100;", 0, 1, 1);
        fraction("damp 100;", 1, 0, 1);
        fraction("damp 100;", 6, 0, 1);
        fraction("damp 99;", 0, 1, 1);
        fraction("damp 99;", 6, 1, 1000000000000L);
        fraction("damp 1;", 1, 99, 100);
        fraction("damp 1;", 6, 941480149401L, 1000000000000L);
        fraction("damp 50;", 6, 1, 64);
        fraction("damp 25;", 2, 9, 16);
        fraction("damp 96;", 3, 1, 15625);
        s.says(26, "NONE: no such ones.");
        LastHouse x = told("damp 50;");
        for (int what = 0; what <= 1; what++) {
            for (int n : new int[] {-1, 7, LEAST, MOST, 1 << 16}) {
                due("dry(" + n + ", " + what + ")", x.dry(n, what), NONE);
            }
        }
        for (int what : new int[] {-1, 2, LEAST, MOST}) {
            due("dry(1, " + what + ")", x.dry(1, what), NONE);
            due("dry(0, " + what + ")", x.dry(0, what), NONE);
        }
    }

    private static void fraction(String text, int n, long above, long below) {
        LastHouse x = told(text);
        due("dry(" + n + ", 0) of " + text, x.dry(n, 0), above);
        due("dry(" + n + ", 1) of " + text, x.dry(n, 1), below);
    }
}
