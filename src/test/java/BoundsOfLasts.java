/** The boundary cases of what is now and of what is done by call: promises 6 to 13, 17 to 20, 27 to 31, 39. */
public final class BoundsOfLasts {
    private static final int NONE = LastHouse.NONE;
    private static final int LEAST = Integer.MIN_VALUE;
    private static final int MOST = Integer.MAX_VALUE;
    private static final long ERROR = Long.MIN_VALUE;
    private static final int NO_INDEX = 1000001;
    private static final int NO_ELEMENT = 1000002;
    /** Three houses, three folk, nothing that years bring. */
    private static final String PLAIN = "house ha 20;house hb 30;house hc 10;"
            + "man ma ha 22 0 5;man mb hb 25 3 0;man mc hc 10 7 2;";
    /** Numbers that are none of a house, a zone, a man, a deed. */
    private static final int[] NEVER = {LEAST, LEAST + 1, -1000, -2, -1, 14, 100, 1 << 16, 1 << 28, 1 << 29, 1 << 30, MOST - 1,
        MOST};
    private static Sentences s;
    private static String kept = "";

    public static void main(String[] args) throws Exception {
        s = new Sentences(6, 7, 8, 9, 10, 11, 12, 13, 17, 18, 19, 20, 27, 28, 29, 30, 31, 39);
        man();
        noMan();
        last();
        layer();
        far();
        pinch();
        law();
        values();
        errors();
        lay();
        fullOfLayers();
        peel();
        move();
        nearest();
        likeness();
        heart();
        ease();
        sum();
        settle();
        knee();
        walkers();
        barest();
        undo();
        twentyAtMost();
        s.end();
    }

    private static void due(String call, long got, long want) {
        s.due(call, got, want);
    }

    private static LastHouse told(String text) {
        return Tester.told(text);
    }

    private static void man() {
        s.says(6, "Of one of the FOLK now, what 0 the HOUSE, 1 WIDE, 2 the ZONE of the BUMP, 3 BUMP, 4 CORNS, 5 whether WED "
                + "(1, 0), 6 PINCH on the LAST of the HOUSE.");
        LastHouse x = told("house a 0;house b 0;man m a 0 0 0;man n b 99 7 20;wed n m 0;law bear 999;");
        int[] least = {0, 0, 0, 0, 0, 0, 0};
        int[] most = {1, 99, 7, 20, 0, 0, 8 * 99 + 20};
        for (int what = 0; what <= 6; what++) {
            due("man(0, " + what + ")", Tester.man(x, 0, what), least[what]);
            due("man(1, " + what + ")", Tester.man(x, 1, what), most[what]);
        }
        x.go(1);
        due("the house now", Tester.man(x, 0, 0), 1);
        due("whether wed", Tester.man(x, 0, 5), 1);
        due("whether wed", Tester.man(x, 1, 5), 1);
        LastHouse eight = told("house a 9;man a a 1 0 0;man b a 1 0 0;man c a 1 0 0;man d a 1 0 0;man e a 1 0 0;man f a 1 0 0;"
                + "man g a 1 0 0;man h a 3 5 7;");
        due("the eighth", Tester.man(eight, 7, 1), 3);
        due("the eighth", Tester.man(eight, 7, 5), 0);
        due("a ninth", Tester.man(eight, 8, 1), NO_INDEX);
    }

    private static void noMan() {
        s.says(6, "IndexOutOfBoundsException: no such one.");
        LastHouse x = told(PLAIN);
        for (int man : NEVER) {
            due("man(" + man + ", 0)", Tester.man(x, man, 0), NO_INDEX);
            due("man(" + man + ", 7)", Tester.man(x, man, 7), NO_INDEX);
        }
        due("man(3, 0)", Tester.man(x, 3, 0), NO_INDEX);
        due("of a new object", Tester.man(new LastHouse(), 0, 0), NO_INDEX);
        due("of a text without folk", Tester.man(told("house a 1;"), 0, 6), NO_INDEX);
        s.says(6, "NoSuchElementException: no such what.");
        for (int what : new int[] {LEAST, -1, 7, 8, MOST}) {
            due("man(0, " + what + ")", Tester.man(x, 0, what), NO_ELEMENT);
            due("man(2, " + what + ")", Tester.man(x, 2, what), NO_ELEMENT);
        }
        due("nothing is changed by it", Tester.man(x, 2, 6), 2);
    }

    private static void last() {
        s.says(7, "The LAST of a HOUSE in a ZONE now (may be below 0);");
        LastHouse x = told("house a 0;house b 99;");
        due("0", x.last(0, 0), 0);
        due("99", x.last(1, 7), 99);
        x.lay(0, 0, -1);
        due("-1 isn't NONE", x.last(0, 0), -1);
        for (int k = 1; k < 12; k++) {
            x.lay(0, 0, -20);
            x.lay(1, 7, 20);
        }
        x.lay(1, 7, 20);
        due("far below 0", x.last(0, 0), -221);
        due("as high as layers go", x.last(1, 7), 99 + 240);
        due("the zone beside it", x.last(1, 6), 99);
        due("the zone beside it", x.last(0, 1), 0);
        s.says(7, "Integer.MIN_VALUE: no such ones.");
        for (int k : NEVER) {
            due("last(" + k + ", 0)", x.last(k, 0), LEAST);
            due("last(0, " + k + ")", x.last(0, k), LEAST);
            due("last(" + k + ", " + k + ")", x.last(k, k), LEAST);
        }
        due("last(2, 0)", x.last(2, 0), LEAST);
        due("last(0, 8)", x.last(0, 8), LEAST);
    }

    private static void layer() {
        s.says(8, "Of the LAYERS of a HOUSE now, what 0: how many, 1: the ZONE of the k-th in the row, from 0 on, 2: by how much "
                + "(below 0: sliced); of 0 k isn't looked at.");
        LastHouse x = told("house a 5;house b 5;");
        due("none", x.layer(0, 0, 0), 0);
        for (int k = 0; k < 12; k++) {
            x.lay(1, k % 8, k % 2 == 0 ? 20 : -20);
        }
        for (int k : new int[] {LEAST, -1, 0, 11, 12, MOST}) {
            due("layer(1, " + k + ", 0)", x.layer(1, k, 0), 12);
        }
        due("the first one's zone", x.layer(1, 0, 1), 0);
        due("the first one", x.layer(1, 0, 2), 20);
        due("the last one's zone", x.layer(1, 11, 1), 3);
        due("the last one", x.layer(1, 11, 2), -20);
        s.says(8, "Integer.MIN_VALUE: no such ones.");
        for (int k : NEVER) {
            due("layer(1, " + k + ", 1)", x.layer(1, k, 1), LEAST);
            due("layer(1, " + k + ", 2)", x.layer(1, k, 2), LEAST);
            due("layer(" + k + ", 0, 0)", x.layer(k, 0, 0), LEAST);
            due("layer(" + k + ", 0, 1)", x.layer(k, 0, 1), LEAST);
            due("layer(1, 0, " + k + ")", x.layer(1, 0, k), LEAST);
        }
        due("a thirteenth", x.layer(1, 12, 1), LEAST);
        due("what 3", x.layer(1, 0, 3), LEAST);
        due("the first of none", x.layer(0, 0, 1), LEAST);
        due("the first of none", x.layer(0, 0, 2), LEAST);
        x.peel(1);
        due("the twelfth of eleven", x.layer(1, 11, 1), LEAST);
        due("the eleventh", x.layer(1, 10, 1), 2);
    }

    private static void far() {
        s.says(9, "FAR of one's FOOT from the LAST of a HOUSE now;");
        LastHouse x = told("house a 0;house b 99;man m a 0 7 0;man n a 99 7 20;");
        due("nothing", x.far(0, 0), 0);
        due("the foot is less", x.far(0, 1), 8 * 99);
        due("the foot is more", x.far(1, 0), 8 * 99 + 20);
        due("by the bump alone", x.far(1, 1), 20);
        x.lay(0, 0, -20);
        due("a last below 0", x.far(0, 0), 20);
        x.lay(1, 7, 20);
        due("the bump is met", x.far(1, 1), 0);
        s.says(9, "NONE: no such ones.");
        for (int k : NEVER) {
            due("far(" + k + ", 0)", x.far(k, 0), NONE);
            due("far(0, " + k + ")", x.far(0, k), NONE);
        }
        due("far(2, 0)", x.far(2, 0), NONE);
        due("far(0, 2)", x.far(0, 2), NONE);
    }

    private static void pinch() {
        s.says(6, "PINCH of a FOOT on a LAST: how much the FOOT is more, in the ZONES where it is, in sum.");
        LastHouse x = told("house a 20;man m a 20 3 0;");
        due("just as wide", Tester.man(x, 0, 6), 0);
        x.lay(0, 3, 1);
        due("less in a zone", Tester.man(x, 0, 6), 0);
        x.lay(0, 4, -1);
        due("less doesn't make up for more", Tester.man(x, 0, 6), 1);
        due("far is both", x.far(0, 0), 2);
    }

    private static void law() {
        s.says(10, "A law's E now (what 0 thick of the DEED i, whatever its YEAR, by as told, 1 bear, 2 corn of one of the FOLK "
                + "i).");
        StringBuilder most = new StringBuilder("house a 20;man m a 23 4 5;man n a 0 0 0;");
        for (int k = 1; k <= 14; k++) {
            most.append(k % 2 == 0 ? "add a 0 " : "slice a 7 ").append(k).append(k == 14 ? " 99;" : " 0;");
        }
        most.append("law thick by*100+zone-1000;law bear 0-pinch;law corn 9999*9999;");
        LastHouse x = told(most.toString());
        due("the first deed, not cut to 0 .. 20", x.law(0, 0), 107 - 1000);
        due("the fourteenth, of year 99", x.law(0, 13), 400);
        due("bear of 0, not cut", x.law(1, 0), -29);
        due("bear of 1", x.law(1, 1), 0);
        due("corn, not cut", x.law(2, 1), 99980001);
        x.go(200);
        due("its year is behind", x.law(0, 13), 400);
        s.says(10, "Long.MIN_VALUE: an ERROR, no such law, no such one.");
        for (int k : NEVER) {
            due("law(0, " + k + ")", x.law(0, k), ERROR);
            due("law(1, " + k + ")", x.law(1, k), ERROR);
            due("law(2, " + k + ")", x.law(2, k), ERROR);
            due("law(" + k + ", 0)", x.law(k, 0), ERROR);
        }
        due("law(1, 2)", x.law(1, 2), ERROR);
        due("law(2, 2)", x.law(2, 2), ERROR);
        due("law(3, 0)", x.law(3, 0), ERROR);
        for (int what = 0; what < 3; what++) {
            due("no such law", told("house a 20;man m a 23 4 5;add a 1 1 1;").law(what, 0), ERROR);
            due("an error", told("house a 20;man m a 23 4 5;add a 1 1 1;law thick 1/0;law bear 1/0;law corn 1/0;").law(what, 0),
                    ERROR);
        }
        LastHouse none = told("law thick 1;law bear 1;law corn 1;");
        for (int what = 0; what < 3; what++) {
            due("no deeds, no folk", none.law(what, 0), ERROR);
        }
        LastHouse one = told("house a 20;man m a 23 4 5;add a 1 1 1;law bear 3;");
        due("no thick", one.law(0, 0), ERROR);
        due("bear", one.law(1, 0), 3);
        due("no corn", one.law(2, 0), ERROR);
    }

    private static void worth(String value, long want) {
        due("E " + value, told("house h 20;man m h 23 4 5;law bear " + value + ";").law(1, 0), want);
    }

    private static void values() {
        s.says(10, "comparisons, and, or, not are 1 or 0 (what isn't 0 is as 1, both sides are worked out), / is cut towards 0;");
        worth("0-1 and 2", 1);
        worth("0 and 2", 0);
        worth("2 and 0", 0);
        worth("0 or 0-1", 1);
        worth("0-1 or 0", 1);
        worth("0 or 0", 0);
        worth("not 0", 1);
        worth("not (0-1)", 0);
        worth("not 9999", 0);
        worth("not not 9999", 1);
        worth("1 or 1/0", ERROR);
        worth("1/0 or 1", ERROR);
        worth("0 and 1/0", ERROR);
        worth("1/0 and 0", ERROR);
        worth("not 1/0", ERROR);
        worth("1/0=1/0", ERROR);
        worth("4<5", 1);
        worth("5<5", 0);
        worth("5<=5", 1);
        worth("6<=5", 0);
        worth("5>5", 0);
        worth("6>5", 1);
        worth("5>=5", 1);
        worth("4>=5", 0);
        worth("5=5", 1);
        worth("4=5", 0);
        worth("5<>5", 0);
        worth("4<>5", 1);
        worth("0-1<0", 1);
        worth("0/7", 0);
        worth("6/7", 0);
        worth("7/7", 1);
        worth("(0-6)/7", 0);
        worth("(0-8)/7", -1);
        worth("(0-13)/7", -1);
        worth("13/(0-7)", -1);
        worth("(0-14)/(0-7)", 2);
        LastHouse x = told("house h 20;man m h 23 4 5;add h 3 7 0;law thick pinch*10+corns;law bear by;law corn by;");
        due("pinch, corns of thick are 0", x.law(0, 0), 0);
        due("by of bear is 0", x.law(1, 0), 0);
        due("by of corn is 0", x.law(2, 0), 0);
    }

    private static void errors() {
        s.says(10, "ERROR: / by 0, a value above 10 to the 12 or below 0 by more than that.");
        String million = "(1000*1000)";
        worth("0/0", ERROR);
        worth("1/(1-1)", ERROR);
        worth("9999/layers", ERROR);
        worth(million + "*" + million, 1000000000000L);
        worth(million + "*" + million + "+1", ERROR);
        worth(million + "*" + million + "+1-1", ERROR);
        worth(million + "*" + million + "-1+1", 1000000000000L);
        worth("0-" + million + "*" + million, -1000000000000L);
        worth("0-" + million + "*" + million + "-1", ERROR);
        worth("(1000*1000+1)*" + million, ERROR);
        worth("(0-1000*1000-1)*" + million, ERROR);
        worth("0*((1000*1000+1)*" + million + ")", ERROR);
        worth("(1000*1000+1)*(1000*1000-1)", 999999999999L);
        worth("9999*9999*9999", 9999L * 9999 * 9999);
        worth("9999*9999*9999*9999", ERROR);
        s.says(10, "VALUES are longs;");
        worth("9999*9999*9999*1", 999700029999L);
        worth("1024*1024*1024*2", 2147483648L);
        worth("0-1024*1024*1024*2-1", -2147483649L);
        // Products that would wrap around, a long's and an int's, and come back into the range.
        worth(million + "*" + million + "*(" + million + "*" + million + ")", ERROR);
        worth("1024*1024*1024*256*(1024*1024*64)", ERROR);
        worth("1024*1024*1024*256*(1024*1024*256)", ERROR);
        worth("1024*1024*1024*4", 4294967296L);
        worth("0-" + million + "*" + million + "*(0-1)", 1000000000000L);
        worth(million + "*" + million + "*(0-1)", -1000000000000L);
        worth(million + "*" + million + "*0", 0);
        worth("0*(" + million + "*" + million + ")", 0);
        worth(million + "*" + million + "/(0-1)", -1000000000000L);
    }

    private static void lay() {
        s.says(11, "A LAYER is put on a LAST now in a ZONE by -20 .. 20, not 0 (E of thick isn't asked): the LAST there;");
        LastHouse x = told(PLAIN + "law thick 0;");
        due("lay 1", x.lay(0, 0, 1), 21);
        due("lay 20", x.lay(0, 0, 20), 41);
        due("lay -1", x.lay(0, 0, -1), 40);
        due("lay -20", x.lay(2, 7, -20), -10);
        due("the last there is -1", x.lay(2, 7, 9), -1);
        due("zone 7 of the last house", x.lay(2, 7, 1), 0);
        s.says(11, "Integer.MIN_VALUE: no such ones, there are 12.");
        for (int k : NEVER) {
            due("house " + k, x.lay(k, 0, 1), LEAST);
            due("zone " + k, x.lay(0, k, 1), LEAST);
        }
        due("house 3", x.lay(3, 0, 1), LEAST);
        due("zone 8", x.lay(0, 8, 1), LEAST);
        for (int by : new int[] {0, 21, -21, 1000, LEAST, MOST, 1 << 16, -(1 << 16)}) {
            due("by " + by, x.lay(0, 0, by), LEAST);
        }
        due("nothing was put on", x.count(6), 6);
        due("nothing more to undo", x.count(12), 6);
    }

    private static void fullOfLayers() {
        s.says(11, "LAYERS in a row, 12 at most, each of a ZONE and by so much, more or less");
        LastHouse x = told(PLAIN);
        for (int k = 1; k <= 12; k++) {
            due("layer " + k, x.lay(1, 7, 20), 30 + 20 * k);
        }
        due("a thirteenth", x.lay(1, 7, 20), LEAST);
        due("a thirteenth in another zone", x.lay(1, 0, -1), LEAST);
        due("twelve", x.layer(1, 0, 0), 12);
        due("nothing is refused by call", x.count(8), 0);
        due("the house behind it", x.layer(2, 0, 0), 0);
        due("the house behind it", x.lay(2, 0, 1), 11);
        due("the twelfth stays", x.layer(1, 11, 2), 20);
        due("peel", x.peel(1), 11);
        due("a twelfth again", x.lay(1, 0, -1), 29);
        due("a thirteenth again", x.lay(1, 0, -1), LEAST);
    }

    private static void peel() {
        s.says(12, "The LAYER of a HOUSE put on latest is peeled off: how many are left;");
        LastHouse x = told(PLAIN);
        x.lay(2, 1, 5);
        x.lay(0, 1, 6);
        x.lay(2, 1, -7);
        due("one is left", x.peel(2), 1);
        due("the first stays", x.last(2, 1), 15);
        due("none is left", x.peel(2), 0);
        due("the wood", x.last(2, 1), 10);
        due("the other house stays", x.last(0, 1), 26);
        s.says(12, "NONE: no such HOUSE, there are none.");
        due("there are none", x.peel(2), NONE);
        due("there were none", x.peel(1), NONE);
        due("house 3", x.peel(3), NONE);
        for (int k : NEVER) {
            due("peel(" + k + ")", x.peel(k), NONE);
        }
        due("what can be undone", x.count(12), 5);
        due("nothing else was peeled", x.count(6), 1);
    }

    private static void move() {
        s.says(13, "One moves to a HOUSE (WED stays): true;");
        LastHouse x = told("house a 0;house b 9;man m a 9 0 0;man n b 9 0 0;wed m n 0;law bear 999;");
        x.go(1);
        s.due("move(1, 1)", x.move(1, 1), true);
        due("house", Tester.man(x, 1, 0), 1);
        due("wed", x.count(7), 2);
        s.due("move(0, 1)", x.move(0, 1), true);
        due("far from a house that nobody is of", x.far(0, 0), 8 * 9 - 8 * 4);
        s.says(13, "false: no such ones, that one is of it.");
        s.due("that one is of it", x.move(0, 1), false);
        s.due("that one is of it", x.move(1, 1), false);
        for (int k : NEVER) {
            s.due("move(" + k + ", 0)", x.move(k, 0), false);
            s.due("move(0, " + k + ")", x.move(0, k), false);
            s.due("move(" + k + ", " + k + ")", x.move(k, k), false);
        }
        s.due("move(2, 0)", x.move(2, 0), false);
        s.due("move(0, 2)", x.move(0, 2), false);
        due("what can be undone", x.count(12), 2);
        due("house", Tester.man(x, 0, 0), 1);
    }

    private static void nearest() {
        s.says(17, "NEAREST of one: the HOUSE whose LAST is least FAR, the first of several.");
        LastHouse x = told("house a 10;house b 10;house c 30;house d 30;house e 20;house f 20;man m f 20 0 0;man n a 15 0 0;"
                + "man o a 99 0 0;");
        due("just so, the first of two", x.nearest(0), 4);
        due("four are as far", x.nearest(1), 0);
        due("the first of the highest", x.nearest(2), 2);
        x.lay(4, 0, -1);
        due("the sixth alone", x.nearest(0), 5);
        s.says(17, "-2: there are no HOUSES; NONE: no such one.");
        // Without houses there are no folk, so there is no such one.
        due("there are neither", new LastHouse().nearest(0), NONE);
        due("nearest(3)", x.nearest(3), NONE);
        for (int k : NEVER) {
            due("nearest(" + k + ")", x.nearest(k), NONE);
        }
        s.says(17, "NEAREST");
        due("one house", told("house a 0;man m a 99 0 20;").nearest(0), 0);
    }

    private static void likeness() {
        s.says(18, "LIKENESS;");
        LastHouse x = told("house a 0;house b 99;house c 0;");
        due("as different as wood is", x.likeness(0, 1), 8 * 99);
        due("the other way round", x.likeness(1, 0), 8 * 99);
        due("nothing differs", x.likeness(0, 2), 0);
        x.lay(0, 7, 1);
        x.lay(2, 7, -1);
        due("above and below 0", x.likeness(0, 2), 2);
        s.says(18, "NONE: no such HOUSES, alike.");
        for (int h = 0; h < 3; h++) {
            due("likeness(" + h + ", " + h + ")", x.likeness(h, h), NONE);
        }
        due("likeness(0, 3)", x.likeness(0, 3), NONE);
        due("likeness(3, 0)", x.likeness(3, 0), NONE);
        for (int k : NEVER) {
            due("likeness(0, " + k + ")", x.likeness(0, k), NONE);
            due("likeness(" + k + ", 0)", x.likeness(k, 0), NONE);
            due("likeness(" + k + ", " + k + ")", x.likeness(k, k), NONE);
        }
    }

    private static void heart() {
        s.says(19, "HEART;");
        LastHouse x = told("house a 99;house b 50;house c 0;");
        due("zone 0", x.heart(0), 0);
        due("zone 7", x.heart(7), 0);
        x.lay(2, 7, 20);
        x.lay(1, 6, -20);
        for (int k = 0; k < 7; k++) {
            x.lay(0, 7, -20);
        }
        due("below 0", x.heart(7), 99 - 140);
        due("zone 6", x.heart(6), 0);
        due("one house", told("house a 7;").heart(3), 7);
        due("the first of three", told("house a 7;house b 8;house c 9;").heart(0), 7);
        due("the second of three", told("house a 8;house b 7;house c 9;").heart(0), 7);
        s.says(19, "Integer.MIN_VALUE: no such ZONE, there are no HOUSES.");
        due("heart(8)", x.heart(8), LEAST);
        for (int k : NEVER) {
            due("heart(" + k + ")", x.heart(k), LEAST);
        }
        for (int zone = 0; zone < 8; zone++) {
            due("no houses", new LastHouse().heart(zone), LEAST);
        }
    }

    private static void ease() {
        s.says(20, "EASE (n 0 .. 9999; bits);");
        LastHouse x = told("house a 20;house b 99;man m a 20 0 0;man n a 99 7 20;");
        due("without layers, just so", x.ease(0, 0), 0);
        for (int k = 0; k < 12; k++) {
            x.lay(0, k % 8, k < 11 ? 1 : 2);
        }
        due("n 0: all twelve", x.ease(0, 0), 4095);
        due("n 1: all but the eleventh", x.ease(0, 1), 3071);
        due("n 11: the twelfth alone", x.ease(0, 11), 2048);
        due("n 12: the first alone", x.ease(0, 12), 1);
        due("n 13: as it is", x.ease(0, 13), 0);
        due("n 9999", x.ease(0, 9999), 0);
        s.says(20, "of several the least; 0 as it is");
        due("one of eleven", x.ease(0, 12), 1);
        due("the twelfth and one of eleven", x.ease(0, 10), 2049);
        LastHouse two = told("house a 20;man m a 20 0 0;");
        two.lay(0, 0, 5);
        two.lay(0, 1, 3);
        two.lay(0, 1, 2);
        two.lay(0, 2, 5);
        due("one alone, not two of less bits", two.ease(0, 10), 1);
        due("two, the least", two.ease(0, 5), 9);
        s.says(20, "-2: by none; NONE: no such ones.");
        due("each layer off makes it farther", x.ease(1, 8 * 79 + 20 - 13 - 1), -2);
        due("just so as it is", x.ease(1, 8 * 79 + 20 - 13), 0);
        due("no layers", told("house a 20;man m a 21 0 0;").ease(0, 7), -2);
        due("n -1", x.ease(0, -1), NONE);
        due("n 10000", x.ease(0, 10000), NONE);
        due("n least", x.ease(0, LEAST), NONE);
        due("n most", x.ease(0, MOST), NONE);
        due("man 2", x.ease(2, 0), NONE);
        for (int k : NEVER) {
            due("ease(" + k + ", 0)", x.ease(k, 0), NONE);
            due("ease(" + k + ", 9999)", x.ease(k, 9999), NONE);
        }
        due("the layers stay", x.layer(0, 0, 0), 12);
    }

    private static void sum() {
        s.says(27, "The LAST of a HOUSE over all ZONES in sum;");
        LastHouse x = told("house a 0;house b 99;");
        due("0", x.sum(0), 0);
        due("99", x.sum(1), 792);
        x.lay(0, 7, -1);
        due("-1 isn't NONE", x.sum(0), -1);
        s.says(27, "Integer.MIN_VALUE: no such HOUSE.");
        due("sum(2)", x.sum(2), LEAST);
        due("of a new object", new LastHouse().sum(0), LEAST);
        for (int k : NEVER) {
            due("sum(" + k + ")", x.sum(k), LEAST);
        }
    }

    private static void settle() {
        s.says(28, "WOOD in a ZONE, if one of each of two HOUSES were WED now;");
        LastHouse x = told("house a 0;house b 1;house c 99;");
        due("half of 1, cut", x.settle(0, 1, 0), 0);
        due("half of 100", x.settle(1, 2, 7), 50);
        due("half of 99, cut", x.settle(2, 0, 7), 49);
        x.lay(0, 3, -2);
        due("half of -1, cut towards 0", x.settle(0, 1, 3), 0);
        x.lay(0, 3, -2);
        due("half of -3, cut towards 0", x.settle(0, 1, 3), -1);
        due("the other way round", x.settle(1, 0, 3), -1);
        due("nothing is done", x.last(0, 3), -4);
        s.says(28, "Integer.MIN_VALUE: no such ones, HOUSES alike.");
        for (int h = 0; h < 3; h++) {
            due("settle(" + h + ", " + h + ", 0)", x.settle(h, h, 0), LEAST);
        }
        due("settle(0, 3, 0)", x.settle(0, 3, 0), LEAST);
        due("settle(3, 0, 0)", x.settle(3, 0, 0), LEAST);
        due("settle(0, 1, 8)", x.settle(0, 1, 8), LEAST);
        for (int k : NEVER) {
            due("settle(0, " + k + ", 0)", x.settle(0, k, 0), LEAST);
            due("settle(" + k + ", 0, 0)", x.settle(k, 0, 0), LEAST);
            due("settle(0, 1, " + k + ")", x.settle(0, 1, k), LEAST);
        }
    }

    private static void knee() {
        s.says(29, "The HOUSE whose LAST has most LAYERS, the first of several (if none has any, too);");
        LastHouse x = told("house a 1;house b 1;house c 1;house d 1;house e 1;house f 1;");
        due("none has any", x.knee(), 0);
        x.lay(5, 0, 1);
        due("the sixth", x.knee(), 5);
        x.lay(3, 0, 1);
        due("the first of two", x.knee(), 3);
        x.lay(1, 0, 1);
        due("the second house", x.knee(), 1);
        x.lay(5, 0, -1);
        due("the sixth has two", x.knee(), 5);
        due("one house", told("house a 1;").knee(), 0);
        s.says(29, "-2: there are no HOUSES.");
        due("a new object", new LastHouse().knee(), -2);
        x.text(0);
        due("a text without lines", x.knee(), -2);
    }

    private static void walkers() {
        s.says(30, "FOLK (bits) who aren't PINCHED at all by the LAST of their HOUSE.");
        LastHouse x = told("house a 9;man a a 9 0 0;man b a 9 0 1;man c a 10 0 0;man d a 0 0 9;man e a 0 0 10;man f a 9 1 0;"
                + "man g a 8 7 2;man h a 8 7 1;");
        due("just as wide, or less", x.walkers(), 1 + 8 + 32 + 128);
        x.lay(0, 0, 1);
        due("one more in zone 0", x.walkers(), 1 + 2 + 8 + 16 + 32 + 128);
        x.lay(0, 1, -20);
        due("none of wide 9", x.walkers(), 0);
        due("no folk", new LastHouse().walkers(), 0);
        due("all eight", told("house a 9;man a a 9 0 0;man b a 9 0 0;man c a 9 0 0;man d a 9 0 0;man e a 9 0 0;man f a 9 0 0;"
                + "man g a 9 0 0;man h a 9 0 0;").walkers(), 255);
    }

    private static void barest() {
        s.says(31, "Who has the least FOOT, over all ZONES in sum, the first of several;");
        due("of two", told("house a 9;man m a 5 0 8;man n a 6 0 0;").barest(), 0);
        due("by one less", told("house a 9;man m a 5 0 9;man n a 6 0 0;").barest(), 1);
        due("the eighth", told("house a 9;man a a 1 0 1;man b a 1 0 1;man c a 1 0 1;man d a 1 0 1;man e a 1 0 1;"
                + "man f a 1 0 1;man g a 1 0 1;man h a 1 0 0;").barest(), 7);
        due("alone", told("house a 9;man m a 99 0 20;").barest(), 0);
        s.says(31, "-2: there are no FOLK.");
        due("a new object", new LastHouse().barest(), -2);
        due("houses without folk", told("house a 9;").barest(), -2);
    }

    private static void undo() {
        s.says(39, "The latest is undone: how many are left; NONE: none.");
        LastHouse x = told(PLAIN);
        due("none", x.undo(), NONE);
        x.lay(0, 0, 5);
        due("none is left", x.undo(), 0);
        due("last(0, 0)", x.last(0, 0), 20);
        due("none", x.undo(), NONE);
        due("none again", x.undo(), NONE);
        due("nothing below none", x.count(12), 0);
        x.lay(0, 0, 5);
        x.lay(0, 1, 6);
        x.peel(0);
        x.move(2, 0);
        due("the move", x.undo(), 3);
        due("house", Tester.man(x, 2, 0), 2);
        due("the peeling", x.undo(), 2);
        due("last(0, 1)", x.last(0, 1), 26);
        due("the layer's zone", x.layer(0, 1, 1), 1);
        due("the layer", x.undo(), 1);
        due("last(0, 1)", x.last(0, 1), 20);
        due("the first layer", x.undo(), 0);
        // Calls that were refused are none that can be undone.
        x.lay(0, 0, 0);
        x.lay(9, 0, 1);
        x.peel(0);
        x.move(0, 0);
        x.move(9, 0);
        due("refused calls", x.count(12), 0);
        s.says(39, "if no YEAR went by since.");
        x.lay(0, 0, 5);
        x.go(0);
        x.go(-1);
        x.go(201);
        due("no year went by", x.count(12), 1);
        x.ahead(200, 0, 0);
        x.tried(0, 0, 200);
        due("no year went by really", x.count(12), 1);
        x.go(1);
        due("a year went by", x.undo(), NONE);
        due("it stays done", x.last(0, 0), 25);
    }

    private static void twentyAtMost() {
        s.says(39, "can be undone, the latest first (20 at most)");
        LastHouse y = told(PLAIN);
        for (int k = 1; k <= 19; k++) {
            s.due("move " + k, y.move(0, k % 3), true);
        }
        due("nineteen", y.count(12), 19);
        s.due("move 20", y.move(0, 2), true);
        due("twenty", y.count(12), 20);
        s.due("move 21", y.move(0, 0), true);
        due("still twenty", y.count(12), 20);
        s.due("move 22", y.move(0, 1), true);
        due("still twenty", y.count(12), 20);
        for (int left = 19; left >= 0; left--) {
            due("undo()", y.undo(), left);
        }
        due("none", y.undo(), NONE);
        due("the first two moves stay", Tester.man(y, 0, 0), 2);
        LastHouse z = told(PLAIN);
        for (int k = 0; k < 24; k++) {
            switch (k % 4) {
                case 0 -> z.lay(k % 3, k % 8, 1 + k % 5);
                case 1 -> z.move(k % 3, (Tester.man(z, k % 3, 0) + 1) % 3);
                case 2 -> z.lay((k + 1) % 3, k % 8, -1 - k % 5);
                default -> due("peel", z.peel(k % 3) >= 0 ? 1 : 0, 1);
            }
            if (k == 3) {
                kept = shown(z);
            }
        }
        due("twenty of 24", z.count(12), 20);
        for (int left = 19; left >= 0; left--) {
            due("undo()", z.undo(), left);
        }
        s.dueRow("all is as behind the fourth", shown(z), kept);
        fullRow();
    }

    private static String shown(LastHouse x) {
        StringBuilder row = new StringBuilder();
        for (int k = 0; k < 3; k++) {
            row.append(Tester.man(x, k, 0)).append(' ').append(x.layer(k, 0, 0)).append(' ');
            for (int zone = 0; zone < 8; zone++) {
                row.append(x.last(k, zone)).append(' ');
            }
        }
        return row.toString();
    }

    /** Twelve layers put on, and all peeled off: the last twenty of these are undone, in a row that is full in between. */
    private static void fullRow() {
        LastHouse x = told(PLAIN);
        for (int k = 1; k <= 12; k++) {
            x.lay(0, 0, k);
        }
        for (int k = 11; k >= 0; k--) {
            due("peel", x.peel(0), k);
        }
        for (int left = 19; left >= 8; left--) {
            due("undo()", x.undo(), left);
        }
        due("the row is full", x.layer(0, 0, 0), 12);
        due("the last", x.last(0, 0), 20 + 78);
        for (int left = 7; left >= 0; left--) {
            due("undo()", x.undo(), left);
        }
        due("four stay", x.layer(0, 0, 0), 4);
        due("the last", x.last(0, 0), 30);
        due("none", x.undo(), NONE);
    }
}
