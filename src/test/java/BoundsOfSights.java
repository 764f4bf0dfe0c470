/** The boundary cases of what was seen, struck, known and asked, and of what is counted: promises 32 to 36, 42. */
public final class BoundsOfSights {
    private static final int NONE = LastHouse.NONE;
    private static final int LEAST = Integer.MIN_VALUE;
    private static final int MOST = Integer.MAX_VALUE;
    private static final int ALL = (1 << 21) - 1;
    private static final int[] NEVER = {LEAST, LEAST + 1, -1000, -2, -1, 8, 100, 1 << 16, 1 << 30, MOST - 1, MOST};
    /** A corn in each year, if the bump is above 10 at first; corn 0 keeps it as it is. */
    private static final String ONE = "house a 20;man m a 20 0 5;law corn 0;";
    private static Sentences s;

    public static void main(String[] args) throws Exception {
        s = new Sentences(32, 33, 34, 35, 36, 42);
        see();
        seeRefused();
        mostSeen();
        atLeastOrFewer();
        strike();
        strikes();
        knownAtFirst();
        known();
        bumps();
        bumpsOfNone();
        ask();
        askOfNone();
        count();
        counts();
        s.end();
    }

    private static void due(String call, long got, long want) {
        s.due(call, got, want);
    }

    private static LastHouse told(String text) {
        return Tester.told(text);
    }

    private static void see() {
        s.says(32, "SEEN: its number;");
        LastHouse x = told(ONE);
        due("years 1, no corns", x.see(1, 0, 0, true), 0);
        due("years 60, 99 corns", x.see(60, 0, 99, false), 1);
        due("the same once more", x.see(60, 0, 99, false), 2);
        due("seen", x.count(10), 3);
    }

    private static void seeRefused() {
        s.says(32, "NONE: no such ones, or there are 24.");
        LastHouse x = told(ONE);
        for (int years : new int[] {0, -1, 61, 100, LEAST, MOST}) {
            due("years " + years, x.see(years, 0, 0, true), NONE);
        }
        for (int man : NEVER) {
            due("man " + man, x.see(1, man, 0, true), NONE);
        }
        due("man 1", x.see(1, 1, 0, true), NONE);
        for (int corns : new int[] {-1, 100, LEAST, MOST}) {
            due("corns " + corns, x.see(1, 0, corns, true), NONE);
            due("corns " + corns, x.see(1, 0, corns, false), NONE);
        }
        due("none of these was", x.count(10), 0);
        due("without folk", told("house a 1;").see(1, 0, 0, true), NONE);
    }

    private static void mostSeen() {
        s.says(32, "SEEN, at most 24, numbered from 0 on");
        LastHouse x = told(ONE);
        for (int k = 0; k < 24; k++) {
            due("see", x.see(1 + k, 0, k, k % 2 == 0), k);
        }
        due("a 25th", x.see(1, 0, 0, true), NONE);
        due("a strike as the 25th", x.strike(0), NONE);
        due("seen", x.count(10), 24);
        due("known by", x.count(11), 24);
        s.due("known(24)", x.known(24), true);
        s.due("known(25)", x.known(25), false);
        LastHouse mixed = told(ONE);
        for (int k = 0; k < 24; k++) {
            due("see or strike", k % 3 == 2 ? mixed.strike(k - 1) : mixed.see(1, 0, 0, true), k);
        }
        due("strikes are counted, too", mixed.see(1, 0, 0, true), NONE);
        due("strikes are counted, too", mixed.strike(23), NONE);
        due("bumps by 24", mixed.bumps(0), ALL);
        Tester.tell(x, ONE);
        due("from 0 on again", x.see(1, 0, 0, true), 0);
    }

    private static void atLeastOrFewer() {
        s.says(32, "behind so many YEARS 1 .. 60 (as it goes from the TEXT on, nothing done by call) one had so many CORNS 0 .. 99 "
                + "at least, or fewer.");
        // Corns behind n years: n of a bump above 10, else none.
        int above = ALL & ~((1 << 11) - 1);
        seen(1, 1, true, above);
        seen(1, 1, false, ALL & ~above);
        seen(1, 0, true, ALL);
        seen(1, 0, false, 0);
        seen(1, 2, true, 0);
        seen(1, 2, false, ALL);
        seen(60, 60, true, above);
        seen(60, 61, true, 0);
        seen(60, 99, true, 0);
        seen(60, 60, false, ALL & ~above);
        seen(60, 61, false, ALL);
        LastHouse x = told(ONE + "house b 20;");
        x.see(3, 0, 3, true);
        x.lay(0, 0, 20);
        x.move(0, 1);
        x.go(50);
        due("nothing done by call", x.bumps(0), above);
        LastHouse wet = told(ONE + "damp 50;");
        wet.see(2, 0, 2, true);
        due("damp 50 as it goes: a bump above 11", wet.bumps(0), above & ~(1 << 11));
        LastHouse dry = told(ONE + "damp 49;");
        dry.see(2, 0, 2, true);
        due("damp 49 as it goes", dry.bumps(0), above);
    }

    private static void seen(int years, int corns, boolean atLeast, int want) {
        LastHouse x = told(ONE);
        due("see", x.see(years, 0, corns, atLeast), 0);
        due("bumps by " + corns + (atLeast ? " at least" : " not") + " behind " + years, x.bumps(0), want);
    }

    private static void strike() {
        s.says(33, "A STRIKE: its number;");
        LastHouse x = told(ONE);
        x.see(1, 0, 1, true);
        due("strike(0)", x.strike(0), 1);
        due("a strike", x.strike(1), 2);
        due("the same again", x.strike(0), 3);
        s.says(33, "NONE: no such one SEEN, or there are 24.");
        due("the one to come", x.strike(4), NONE);
        for (int k : NEVER) {
            due("strike(" + k + ")", x.strike(k), NONE);
        }
        due("seen", x.count(10), 4);
        due("nothing seen", told(ONE).strike(0), NONE);
        for (int k = 4; k < 24; k++) {
            due("strike(0)", x.strike(0), k);
        }
        due("there are 24", x.strike(0), NONE);
        due("there are 24", x.strike(23), NONE);
        s.due("known(0)", x.known(0), true);
        due("there are 24 all the same", x.strike(0), NONE);
    }

    private static void strikes() {
        s.says(33, "the first n that aren't STRUCK by one of these (a STRIKE may be STRUCK: then it doesn't count; asked from the "
                + "last one on)");
        int above = ALL & ~((1 << 11) - 1);
        LastHouse x = told(ONE);
        x.see(1, 0, 1, true);
        due("0 counts", x.bumps(0), above);
        // Each strike strikes the one ahead: by turns the sight counts or doesn't.
        for (int k = 1; k < 24; k++) {
            due("strike(" + (k - 1) + ")", x.strike(k - 1), k);
            due("a chain of " + k, x.bumps(0), k % 2 == 1 ? ALL : above);
        }
        for (int n = 0; n <= 24; n++) {
            x.known(n);
            due("known by " + n, x.bumps(0), n == 0 || n % 2 == 0 ? ALL : above);
        }
        LastHouse twice = told(ONE);
        twice.see(1, 0, 1, true);
        twice.strike(0);
        twice.strike(0);
        twice.strike(1);
        due("struck twice, one strike is struck", twice.bumps(0), ALL);
        twice.strike(2);
        due("both strikes are struck", twice.bumps(0), above);
        twice.known(4);
        due("by four", twice.bumps(0), ALL);
    }

    private static void knownAtFirst() {
        s.says(34, "KNOWN by n (all at first)");
        LastHouse x = told(ONE);
        due("none", x.count(11), 0);
        for (int k = 0; k < 24; k++) {
            x.see(1, 0, 1, k < 23);
            due("all", x.count(11), k + 1);
        }
        due("the last one counts, too", x.bumps(0), 0);
        x.known(23);
        due("all but the last one", x.bumps(0), ALL & ~((1 << 11) - 1));
        x.keep();
        x.known(0);
        due("back()", x.back(), 0);
        due("what was seen stays", x.count(10), 24);
    }

    private static void known() {
        s.says(34, "KNOWN by n from now on (-1: by all, also those to come): true;");
        int above = ALL & ~((1 << 11) - 1);
        LastHouse x = told(ONE);
        s.due("known(0) of none", x.known(0), true);
        x.see(1, 0, 1, true);
        due("by none", x.bumps(0), ALL);
        due("by how many", x.count(11), 0);
        s.due("known(1)", x.known(1), true);
        due("by one", x.bumps(0), above);
        x.see(1, 0, 1, false);
        due("still by one", x.bumps(0), above);
        due("by how many", x.count(11), 1);
        s.due("known(2)", x.known(2), true);
        due("by two", x.bumps(0), 0);
        s.due("known(-1)", x.known(-1), true);
        due("by all", x.bumps(0), 0);
        due("by how many", x.count(11), 2);
        x.strike(1);
        due("also those to come", x.bumps(0), above);
        due("by how many", x.count(11), 3);
        s.says(34, "false: no such n.");
        x.known(1);
        for (int n : new int[] {-2, -3, 4, 24, 25, LEAST, MOST}) {
            s.due("known(" + n + ")", x.known(n), false);
            due("it stays", x.count(11), 1);
        }
        s.due("known(3)", x.known(3), true);
        s.due("known(1) of none", told(ONE).known(1), false);
        s.due("known(-1) of none", told(ONE).known(-1), true);
    }

    private static void bumps() {
        s.says(35, "BUMPS (bits);");
        LastHouse x = told(ONE);
        due("nothing seen: 0 .. 20", x.bumps(0), 0x1fffff);
        LastHouse low = told("house a 20;man m a 20 0 20;law bear 0;law corn 0;");
        low.see(1, 0, 1, false);
        due("0 alone", low.bumps(0), 1);
        LastHouse high = told("house a 20;man m a 20 0 0;law bear 19;law corn 0;");
        high.see(1, 0, 1, true);
        due("20 alone", high.bumps(0), 1 << 20);
        high.see(1, 0, 1, false);
        due("none", high.bumps(0), 0);
        LastHouse never = told("house a 20;man m a 20 0 0;law bear 20;law corn 0;");
        never.see(60, 0, 1, true);
        due("not even 20", never.bumps(0), 0);
        s.says(35, "BUMPS of one: 0 .. 20 (bits) in place of BUMP told, by which all KNOWN ones are so.");
        LastHouse two = told("house a 20;man m a 20 0 11;man n a 20 0 3;law corn 0;");
        two.see(1, 0, 1, true);
        due("the other one's bump is as told", two.bumps(1), 0x1fffff);
        due("its own", two.bumps(0), 0x1ff800);
        two.see(1, 1, 1, true);
        due("the other one's bump doesn't fit", two.bumps(0), 0);
        due("its own", two.bumps(1), 0x1ff800);
    }

    private static void bumpsOfNone() {
        s.says(35, "NONE: no such one.");
        LastHouse x = told(ONE);
        due("bumps(1)", x.bumps(1), NONE);
        for (int k : NEVER) {
            due("bumps(" + k + ")", x.bumps(k), NONE);
        }
        due("no folk", told("house a 1;").bumps(0), NONE);
        due("a new object", new LastHouse().bumps(0), NONE);
    }

    private static void asked(LastHouse x, int n, int corns, int left) {
        due("ask(0, " + n + ", 0)", x.ask(0, n, 0), corns);
        due("ask(0, " + n + ", 1)", x.ask(0, n, 1), left);
    }

    private static void ask() {
        s.says(36, "so many CORNS 1 .. 60 of that one, of which, if one asks whether there are as many at least behind n YEARS as "
                + "above, as few of BUMPS (by KNOWN) as may be are left at worst, the first of several.");
        LastHouse x = told(ONE);
        // Eleven have none, ten have n: 1 .. n are as good, the first is 1.
        asked(x, 1, 1, 11);
        asked(x, 60, 1, 11);
        // A corn in the last of sixty years alone, for a bump above 10.
        asked(told("house a 20;man m a 20 0 5;law bear 10+999*(year<59);law corn 0;"), 60, 1, 11);
        // All have 59, those above 10 sixty.
        asked(told("house a 19;man m a 20 0 5;law bear 17*(year=0);law corn 0;"), 60, 60, 11);
        // Nobody has any: each question leaves all.
        asked(told("house a 20;man m a 0 0 5;"), 60, 1, 21);
        // All have sixty: 1 .. 60 leave all.
        asked(told("house a 0;man m a 99 0 5;"), 60, 1, 21);
        LastHouse one = told("house a 20;man m a 20 0 5;law bear 0;law corn 0;");
        one.see(1, 0, 1, false);
        asked(one, 60, 1, 1);
        s.says(36, "ASK (n 1 .. 60), what 0: how many CORNS, 1: how many are left at worst (1 and 0, if there are none).");
        LastHouse none = told(ONE);
        none.see(1, 0, 0, false);
        asked(none, 1, 1, 0);
        asked(none, 60, 1, 0);
        none.known(0);
        asked(none, 1, 1, 11);
        asked(none, 60, 1, 11);
    }

    private static void askOfNone() {
        s.says(36, "NONE: no such ones.");
        LastHouse x = told(ONE);
        for (int what = 0; what <= 1; what++) {
            for (int n : new int[] {0, -1, 61, LEAST, MOST}) {
                due("ask(0, " + n + ", " + what + ")", x.ask(0, n, what), NONE);
            }
            for (int man : NEVER) {
                due("ask(" + man + ", 1, " + what + ")", x.ask(man, 1, what), NONE);
            }
            due("ask(1, 1, " + what + ")", x.ask(1, 1, what), NONE);
        }
        for (int what : new int[] {-1, 2, LEAST, MOST}) {
            due("ask(0, 1, " + what + ")", x.ask(0, 1, what), NONE);
        }
        due("no folk", new LastHouse().ask(0, 1, 0), NONE);
    }

    private static void count() {
        s.says(42, "0 HOUSES, 1 FOLK, 2 DEEDS told, 3 KNOTS, 4 the YEAR, 5 CORNS of all, 6 LAYERS of all LASTS, 7 how many are "
                + "WED, 8 REFUSED so far, 9 PINCH of all in sum, 10 SEEN, 11 by how many it is KNOWN, 12 what can be undone.");
        LastHouse none = new LastHouse();
        for (int what = 0; what <= 12; what++) {
            due("count(" + what + ") of a new object", none.count(what), 0);
        }
        StringBuilder most = new StringBuilder();
        for (char c = 'a'; c <= 'f'; c++) {
            most.append("house ").append(c).append(" 0;");
        }
        for (char c = 'a'; c <= 'h'; c++) {
            most.append("man ").append(c).append(c < 'e' ? " a 99 7 20;" : " b 99 7 20;");
        }
        most.append("slice a 0 1 0;".repeat(14)).append("law bear 1").append("+1".repeat(31)).append(";law corn 0;");
        most.append("wed a e 1;wed b f 1;");
        LastHouse x = told(most.toString());
        for (int h = 0; h < 6; h++) {
            for (int k = 0; k < 12; k++) {
                x.lay(h, 0, 20);
            }
        }
        x.see(1, 0, 1, true);
        int[] want = {6, 8, 14, 64, 0, 0, 72, 0, 0, 8 * (7 * 99 + 20), 1, 1, 20};
        for (int what = 0; what <= 12; what++) {
            due("count(" + what + ") of the most", x.count(what), want[what]);
        }
        x.go(1);
        due("refused", x.count(8), 14);
        due("corns of all", x.count(5), 8);
        due("nothing to undo", x.count(12), 0);
        x.go(1);
        due("wed", x.count(7), 4);
        due("layers, house a's are gone", x.count(6), 60);
        due("refused", x.count(8), 14);
    }

    private static void counts() {
        s.says(42, "NONE for another what.");
        LastHouse x = told(ONE);
        for (int what : new int[] {-1, -2, 13, 14, LEAST, MOST}) {
            due("count(" + what + ")", x.count(what), NONE);
            due("count(" + what + ") of a new object", new LastHouse().count(what), NONE);
        }
    }
}
