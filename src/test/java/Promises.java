/** Each promise of the document by its number: ordinary inputs, edges, wrong inputs; what is due is worked out by hand. */
public final class Promises {
    private static final int NONE = LastHouse.NONE;
    private static final int LEAST = Integer.MIN_VALUE;
    private static final int NO_INDEX = 1000001;
    private static final int NO_ELEMENT = 1000002;
    private static final Tester T = new Tester();

    /** Three houses, three folk, nothing that years bring. */
    private static final String PLAIN = "house ha 20;house hb 30;house hc 10;"
            + "man ma ha 22 0 5;man mb hb 25 3 0;man mc hc 10 7 2;";

    public static void main(String[] args) {
        newObject();
        feed();
        text();
        fault();
        faultsOfTokens();
        faultsOfTooMuch();
        faultsOfNames();
        named();
        man();
        last();
        layer();
        far();
        law();
        valuesOfLaws();
        lay();
        peel();
        move();
        go();
        goByLaws();
        goDamp();
        goWeddings();
        ahead();
        firstCorn();
        nearest();
        likeness();
        heart();
        ease();
        match();
        join();
        game();
        rests();
        dry();
        sums();
        knee();
        walkers();
        see();
        known();
        bumps();
        ask();
        chance();
        tried();
        undo();
        image();
        count();
        T.end();
    }

    private static void due(String call, long got, long want) {
        T.due(call, got, want);
    }

    private static LastHouse told(String text) {
        return Tester.told(text);
    }

    private static void newObject() {
        T.about("promise 1");
        LastHouse x = new LastHouse();
        due("NONE", LastHouse.NONE, -1);
        for (int what = 0; what <= 12; what++) {
            due("count(" + what + ")", x.count(what), 0);
        }
        due("text(0)", x.text(0), 0);
        due("text(1)", x.text(1), -2);
        due("feed", x.feed(0, 0, 0, 0, 0), 20);
    }

    private static void feed() {
        T.about("promise 2");
        LastHouse x = new LastHouse();
        for (int k = 1; k <= 35; k++) {
            due("feed", x.feed(1, 2, 3, 4, 5), 20 * k);
        }
        due("feed beyond 700", x.feed(1, 2, 3, 4, 5), NONE);
        due("feed beyond 700 again", x.feed(1, 2, 3, 4, 5), NONE);
        due("text(701)", x.text(701), -2);
        due("text(700)", x.text(700), NONE);
        due("feed behind text", x.feed(1, 2, 3, 4, 5), 20);
        LastHouse y = new LastHouse();
        y.feed(0x64616d70, 0x20333b20, 0x20202020, 0x20202020, 0x2020202d);
        due("text: damp 3;", y.text(19), 1);
        due("dry(1, 0)", y.dry(1, 0), 97);
        y.feed(0x20202020, 0x20202020, 0x20202020, 0x20202020, -1);
        due("text with bytes 255", y.text(20), NONE);
        due("its place", y.fault(1), 16);
    }

    private static void text() {
        T.about("promise 3");
        LastHouse x = told(PLAIN);
        due("lines", Tester.tell(x, PLAIN), 6);
        due("text(-1)", x.text(-1), -2);
        due("text(1) of an empty tape", x.text(1), -2);
        x.feed(0, 0, 0, 0, 0);
        due("text(21) stays", x.text(21), -2);
        due("the tape stays", x.feed(0, 0, 0, 0, 0), 40);
        due("text(40)", x.text(40), NONE);
        x.lay(0, 0, 3);
        x.see(1, 0, 1, true);
        x.keep();
        x.known(1);
        due("a fault", Tester.tell(x, "house ha 20;house ha 3;"), NONE);
        due("all stays: houses", x.count(0), 3);
        due("all stays: last", x.last(0, 0), 23);
        due("all stays: seen", x.count(10), 1);
        due("all stays: undo", x.count(12), 1);
        due("all stays: image", x.back(), 0);
        x.lay(0, 0, 3);
        x.go(3);
        x.move(0, 1);
        due("a new text", Tester.tell(x, "house ha 7;\n man ma ha 1 2 3 ;"), 2);
        due("houses", x.count(0), 1);
        due("year", x.count(4), 0);
        due("seen", x.count(10), 0);
        due("known by", x.count(11), 0);
        due("undo", x.undo(), NONE);
        due("image", x.back(), NONE);
        due("last", x.last(0, 0), 7);
        due("house of ma", Tester.man(x, 0, 0), 0);
        due("text(0)", x.text(0), 0);
        due("houses of a text without lines", x.count(0), 0);
        due("text without blanks", Tester.tell(x, "house a1;man b a1 1 1;law bear not1;damp007;"), 4);
    }

    private static void fault() {
        T.about("promise 4");
        LastHouse x = new LastHouse();
        due("fault(0) at first", x.fault(0), 0);
        due("fault(1) at first", x.fault(1), NONE);
        due("fault(2)", x.fault(2), NONE);
        due("fault(-1)", x.fault(-1), NONE);
        faulty("house ha 20;house ha 3;", 3, 18);
        due("text with a fault", Tester.tell(x, "damp 101;"), NONE);
        due("fault(0)", x.fault(0), 2);
        due("fault(1)", x.fault(1), 5);
        due("text(-1)", x.text(-1), -2);
        due("text(99)", x.text(99), -2);
        due("fault(0) stays behind -2", x.fault(0), 2);
        due("fault(1) stays behind -2", x.fault(1), 5);
        due("text without a fault", Tester.tell(x, "damp 100;"), 1);
        due("fault(0) behind a good one", x.fault(0), 0);
        due("fault(1) behind a good one", x.fault(1), NONE);
    }

    private static void faulty(String text, int kind, int place) {
        LastHouse x = new LastHouse();
        due("text of " + text, Tester.tell(x, text), NONE);
        due("fault of " + text, x.fault(0), kind);
        due("place in " + text, x.fault(1), place);
    }

    private static void good(String text, int lines) {
        LastHouse x = new LastHouse();
        due("text of " + text, Tester.tell(x, text), lines);
        due("fault of " + text, x.fault(0), 0);
    }

    private static void faultsOfTokens() {
        T.about("promise 4, fault 1");
        faulty(";", 1, 0);
        faulty("  \n x", 1, 4);
        faulty("house", 1, 5);
        faulty("house   ", 1, 8);
        faulty("house a", 1, 7);
        faulty("house a 1", 1, 9);
        faulty("house a 1 ", 1, 10);
        faulty("house a 1 2;", 1, 10);
        faulty("house 1 1;", 1, 6);
        faulty("house man 1;", 1, 6);
        faulty("house corns 1;", 1, 6);
        good("house corned 1;", 1);
        faulty("house abcdefg 1;", 1, 6);
        faulty("house a b;", 1, 8);
        faulty("House a 1;", 1, 0);
        faulty("house a\t1;", 1, 7);
        faulty("house a -1;", 1, 8);
        faulty("man x y", 4, 6);
        faulty("man x 1", 1, 6);
        faulty("damp x;", 1, 5);
        faulty("law 1;", 1, 4);
        faulty("law thick;", 1, 9);
        faulty("law thick", 1, 9);
        faulty("law thick (1;", 1, 12);
        faulty("law thick (1", 1, 12);
        faulty("law thick 1);", 1, 11);
        faulty("law thick ();", 1, 11);
        faulty("law thick 1 2;", 1, 12);
        faulty("law thick 1 +;", 1, 13);
        faulty("law thick -1;", 1, 10);
        faulty("law thick 1 + not 1;", 1, 14);
        faulty("law thick 1 < not 1;", 1, 14);
        faulty("law thick 1 not 1;", 1, 12);
        good("law thick 1 and not not 1 < 2;", 1);
        good("law thick 1 or not (not 1) < 2;", 1);
        faulty("law thick 1 < 2 < 3;", 1, 16);
        faulty("law thick 1 < 2 + 3 = 3;", 1, 20);
        faulty("law thick not 1 < 2 > 3;", 1, 20);
        good("law thick (1 < 2) < (3 <> 4);", 1);
        good("law thick 1 < 2 and 3 < 4;", 1);
        faulty("law thick 1 < = 2;", 1, 14);
        faulty("law thick 1 < > 2;", 1, 14);
        faulty("law thick 1 => 2;", 1, 13);
        faulty("law thick 1 >< 2;", 1, 13);
        faulty("law thick 1 == 2;", 1, 13);
        faulty("law thick 1 >> 2;", 1, 13);
        faulty("law thick 1 <>= 2;", 1, 14);
        faulty("law thick thick;", 1, 10);
        faulty("law thick 1 house a 1;", 1, 12);
        faulty("law thick # house a 1;", 1, 10);
    }

    private static void faultsOfTooMuch() {
        T.about("promise 4, fault 2");
        String six = "house a 0;house b 99;house c 1;house d 1;house e 1;house f 1;";
        good(six, 6);
        faulty(six + "house a 1;", 2, 61);
        faulty("house a 99999999999999999999999999;", 2, 8);
        faulty("house a 4294967297;", 2, 8);
        good("house a 00000000000000000000000000099;", 1);
        faulty("house a 100;", 2, 8);
        faulty("seed 100000;", 2, 5);
        faulty("damp 101;", 2, 5);
        faulty("strip 100;", 2, 6);
        good("house a 1;man m a 0 0 0;", 2);
        String house = "house a 1;";
        good(house + "man m a 99 7 20;", 2);
        faulty(house + "man m a 100 7 20;", 2, 18);
        faulty(house + "man m a 99 8 20;", 2, 21);
        faulty(house + "man m a 99 7 21;", 2, 23);
        StringBuilder folk = new StringBuilder(house);
        for (int m = 0; m < 8; m++) {
            folk.append("man ").append((char) ('a' + m)).append(" a 1 1 1;");
        }
        good(folk.toString(), 9);
        faulty(folk + "man a b 1 1 1;", 2, 122);
        StringBuilder deeds = new StringBuilder(house);
        for (int d = 0; d < 14; d++) {
            deeds.append(d % 2 == 0 ? "add a 7 20 99;" : "slice a 7 1 9;");
        }
        good(deeds.toString(), 15);
        faulty(deeds + " add a 1 1 1;", 2, 207);
        faulty(deeds + " slice b 1 1 1;", 2, 207);
        faulty(house + "add a 8 1 1;", 2, 16);
        faulty(house + "slice a 1 0 1;", 2, 20);
        faulty(house + "slice a 1 21 1;", 2, 20);
        faulty(house + "slice a 1 1 100;", 2, 22);
        String two = house + "man m a 1 1 1;man n a 1 1 1;";
        String six2 = "wed m n 0;wed n m 99;wed m n 1;wed m n 1;wed m n 1;wed m n 1;";
        good(two + six2, 9);
        faulty(two + six2 + "wed x x 1;", 2, 99);
        faulty(two + "wed m n 100;", 2, 46);
        good("strip 0;strip 99;strip 0;strip 1;", 4);
        faulty("strip 0;strip 99;strip 0;strip 1;strip 1;", 2, 33);
        good("damp 0;seed 99999;", 2);
        good("damp 100;seed 0;", 2);
        good("law bear 9999;", 1);
        faulty("law bear 10000;", 2, 9);
        good("law bear ((((((((1))))))));", 1);
        good("law bear ((((((((1)))))))) + ((((((((1))))))));", 1);
        faulty("law bear (((((((((1)))))))));", 2, 17);
        knots();
        cutShort();
    }

    /** What stands on the tape behind the text isn't looked at. */
    private static void cutShort() {
        String whole = "law thick 12 <= year;";
        int[][] cuts = {{1, 1, 0}, {9, 1, 9}, {14, 1, 14}, {15, 1, 15}, {18, 1, 16}, {20, 1, 20}, {11, 1, 11}};
        for (int[] cut : cuts) {
            LastHouse x = new LastHouse();
            int[] row = Tester.numbers(Tester.bytes(whole));
            x.feed(row[0], row[1], row[2], row[3], row[4]);
            x.feed(row[5], row[6], row[7], row[8], row[9]);
            due("text(" + cut[0] + ")", x.text(cut[0]), NONE);
            due("fault of text(" + cut[0] + ")", x.fault(0), cut[1]);
            due("place of text(" + cut[0] + ")", x.fault(1), cut[2]);
        }
    }

    private static void knots() {
        StringBuilder sum = new StringBuilder("law bear 1");
        for (int k = 0; k < 31; k++) {
            sum.append("+1");
        }
        good(sum + ";law corn by;", 2);
        due("knots", told(sum + ";law corn by;").count(3), 64);
        due("brackets are no knots", told(sum + ";law corn (by);").count(3), 64);
        faulty(sum + ";law corn by+1;", 2, 84);
        faulty(sum + ";law corn not by;", 2, 86);
        faulty(sum + "+1;", 2, 73);
        faulty(sum + ";law corn 1;law thick 1;", 2, 94);
        good("law bear " + "not ".repeat(63) + "((((((((1))))))));", 1);
        due("all knots wait", told("law bear " + "not ".repeat(63) + "((((((((1))))))));").count(3), 64);
        LastHouse x = told("law thick not(by*zone+much<=3)or pinch/corns-layers<>year and 7;");
        due("knots", x.count(3), 18);
    }

    private static void faultsOfNames() {
        T.about("promise 4, faults 3 4 5");
        faulty("house a 1;house b 1;house a 100;", 3, 26);
        good("house a 1;man a a 1 1 1;", 2);
        faulty("house a 1;man a a 1 1 1;man a b 1 1 1;", 3, 28);
        faulty("house a 1;man b b 1 1 1;", 4, 16);
        faulty("house a 1;man b a 1 1 1;add b 1 1 1;", 4, 28);
        faulty("house a 1;man b a 1 1 1;slice b 1 1 1;", 4, 30);
        faulty("house a 1;man b a 1 1 1;wed a b 1;", 4, 28);
        faulty("house a 1;man b a 1 1 1;wed b a 1;", 4, 30);
        faulty("house a 1;man b a 1 1 1;wed a a 1;", 4, 28);
        faulty("house a 1;man b a 1 1 1;wed b b 100;", 5, 30);
        faulty("seed 1;damp 1;seed x;", 3, 14);
        faulty("damp 1;damp;", 3, 7);
        faulty("damp 0;damp 0;", 3, 7);
        faulty("law corn 1;law thick 1;law bear 1;law corn x;", 3, 38);
        faulty("law bear 1;law thick 1;law thick 1;", 3, 27);
    }

    private static void named() {
        T.about("promise 5");
        LastHouse x = told("house a 1;house abcdef 2;house z 3;man z a 1 1 1;man zz a 1 1 1;");
        due("a", x.named(0, 1 << 25), 0);
        due("abcdef", x.named(0, Tester.letters("abcdef")), 1);
        due("z", x.named(0, 26 << 25), 2);
        due("z of the folk", x.named(1, 26 << 25), 0);
        due("zz of the folk", x.named(1, 26 << 25 | 26 << 20), 1);
        due("zz of the houses", x.named(0, 26 << 25 | 26 << 20), NONE);
        due("a of the folk", x.named(1, 1 << 25), NONE);
        due("a at the lowest place", x.named(0, 1), NONE);
        due("0", x.named(0, 0), NONE);
        due("below 0", x.named(0, -1), NONE);
        due("what 2", x.named(2, 1 << 25), NONE);
        due("what -1", x.named(-1, 1 << 25), NONE);
    }

    private static void man() {
        T.about("promise 6");
        LastHouse x = told(PLAIN);
        int[] want = {0, 22, 0, 5, 0, 0, 7 + 7 * 2};
        for (int what = 0; what <= 6; what++) {
            due("man(0, " + what + ")", Tester.man(x, 0, what), want[what]);
        }
        due("pinch of mb", Tester.man(x, 1, 6), 0);
        due("pinch of mc", Tester.man(x, 2, 6), 2);
        due("man(0, 7)", Tester.man(x, 0, 7), NO_ELEMENT);
        due("man(0, -1)", Tester.man(x, 0, -1), NO_ELEMENT);
        due("man(3, 0)", Tester.man(x, 3, 0), NO_INDEX);
        due("man(-1, 0)", Tester.man(x, -1, 0), NO_INDEX);
        due("man(3, 7)", Tester.man(x, 3, 7), NO_INDEX);
        due("man of a new object", Tester.man(new LastHouse(), 0, 7), NO_INDEX);
    }

    private static void last() {
        T.about("promise 7");
        LastHouse x = told(PLAIN);
        due("last(2, 7)", x.last(2, 7), 10);
        x.lay(2, 7, -20);
        x.lay(2, 7, 3);
        due("last(2, 7)", x.last(2, 7), -7);
        due("last(2, 6)", x.last(2, 6), 10);
        due("last(3, 0)", x.last(3, 0), LEAST);
        due("last(-1, 0)", x.last(-1, 0), LEAST);
        due("last(0, 8)", x.last(0, 8), LEAST);
        due("last(0, -1)", x.last(0, -1), LEAST);
    }

    private static void layer() {
        T.about("promise 8");
        LastHouse x = told(PLAIN + "add ha 5 9 0;slice ha 6 8 0;law thick by - 8 * (zone = 6);");
        x.go(1);
        due("how many", x.layer(0, 99, 0), 2);
        due("how many, k below 0", x.layer(0, -5, 0), 2);
        due("zone 0", x.layer(0, 0, 1), 5);
        due("by 0", x.layer(0, 0, 2), 9);
        due("zone of a layer of 0", x.layer(0, 1, 1), 6);
        due("by of a layer of 0", x.layer(0, 1, 2), 0);
        due("k 2", x.layer(0, 2, 1), LEAST);
        due("k -1", x.layer(0, -1, 2), LEAST);
        due("what 3", x.layer(0, 0, 3), LEAST);
        due("what -1", x.layer(0, 0, -1), LEAST);
        due("house 3", x.layer(3, 0, 0), LEAST);
        due("house -1", x.layer(-1, 0, 0), LEAST);
        x.lay(2, 4, 11);
        x.lay(2, 3, -12);
        due("zone of house 2", x.layer(2, 1, 1), 3);
        due("by of house 2", x.layer(2, 1, 2), -12);
        due("by of house 2", x.layer(2, 0, 2), 11);
        due("by of house 0 stays", x.layer(0, 0, 2), 9);
        due("house without", x.layer(1, 0, 0), 0);
        due("house without, k 0", x.layer(1, 0, 1), LEAST);
    }

    private static void far() {
        T.about("promise 9");
        LastHouse x = told(PLAIN);
        due("far(0, 0)", x.far(0, 0), 21);
        due("far(0, 1)", x.far(0, 1), 3 + 7 * 8);
        due("far(1, 0)", x.far(1, 0), 40);
        x.lay(0, 1, 4);
        due("far(0, 0) with a layer", x.far(0, 0), 21);
        x.lay(0, 1, -9);
        due("far(0, 0) with a slice", x.far(0, 0), 7 + 7 + 12);
        due("far(3, 0)", x.far(3, 0), NONE);
        due("far(-1, 0)", x.far(-1, 0), NONE);
        due("far(0, 3)", x.far(0, 3), NONE);
        due("far(0, -1)", x.far(0, -1), NONE);
    }

    private static void law() {
        T.about("promise 10");
        LastHouse x = told("house h 20;man m h 23 4 5;add h 2 9 50;slice h 3 8 0;"
                + "law thick by * 1000 + zone * 100 + layers * 10 + year;"
                + "law bear much * 100 + pinch * 10 + corns;law corn 0 - (layers + zone + by);");
        due("thick 0", x.law(0, 0), 9200);
        due("thick 1", x.law(0, 1), 8300);
        due("thick 2", x.law(0, 2), Long.MIN_VALUE);
        due("thick -1", x.law(0, -1), Long.MIN_VALUE);
        due("bear 0", x.law(1, 0), 2000 + 8 * 10 + 7 * 3 * 10);
        due("corn 0", x.law(2, 0), -4);
        x.lay(0, 4, 10);
        due("bear 0 with a layer", x.law(1, 0), 3000 + 7 * 3 * 10);
        due("corn 0 with a layer", x.law(2, 0), -5);
        due("thick 1 with a layer", x.law(0, 1), 8310);
        due("bear 1", x.law(1, 1), Long.MIN_VALUE);
        due("bear -1", x.law(1, -1), Long.MIN_VALUE);
        due("corn 1", x.law(2, 1), Long.MIN_VALUE);
        due("what 3", x.law(3, 0), Long.MIN_VALUE);
        due("what -1", x.law(-1, 0), Long.MIN_VALUE);
        x.go(2);
        due("thick 0 in year 2", x.law(0, 0), 9222);
        LastHouse y = told("house h 20;man m h 23 4 5;add h 2 9 50;");
        due("no thick", y.law(0, 0), Long.MIN_VALUE);
        due("no bear", y.law(1, 0), Long.MIN_VALUE);
        due("no corn", y.law(2, 0), Long.MIN_VALUE);
        LastHouse z = told("house h 20;add h 2 9 50;law thick pinch + corns * 10 + much * 100;");
        due("pinch and corns of thick", z.law(0, 0), 2000);
    }

    private static void worth(String value, long want) {
        LastHouse x = told("house h 20;man m h 23 4 5;law bear " + value + ";");
        due("E " + value, x.law(1, 0), want);
    }

    private static void valuesOfLaws() {
        T.about("promise 10, values");
        long error = Long.MIN_VALUE;
        worth("2+3*4", 14);
        worth("(2+3)*4", 20);
        worth("20-3-4", 13);
        worth("100/7/2", 7);
        worth("100/7*2", 28);
        worth("(0-7)/2", -3);
        worth("7/(0-2)", -3);
        worth("1<2", 1);
        worth("2<=1", 0);
        worth("2>=2", 1);
        worth("2>2", 0);
        worth("2=2", 1);
        worth("2<>2", 0);
        worth("1+1<3*1", 1);
        worth("2<=2", 1);
        worth("1<>2", 1);
        worth("5 and 7", 1);
        worth("1 and 7", 1);
        worth("7 and 1", 1);
        worth("5 and 0", 0);
        worth("0 or 9", 1);
        worth("0 or 0", 0);
        worth("1 or 1 and 0", 1);
        worth("(1 or 1) and 0", 0);
        worth("not 5", 0);
        worth("not 0", 1);
        worth("not not 7", 1);
        worth("not 1 < 2", 0);
        worth("not 0 and 0", 0);
        worth("not (0 and 0)", 1);
        worth("not 1 or 1", 1);
        worth("1/0", error);
        worth("1 or 1/0", error);
        worth("0 and 1/0", error);
        worth("0*(1/0)", error);
        worth("0/5", 0);
        worth("1000*1000*1000*1000", 1000000000000L);
        worth("1000*1000*1000*1000-1+1", 1000000000000L);
        worth("1000*1000*1000*1000+1", error);
        worth("1000*1000*1000*1000+1-1", error);
        worth("0-1000*1000*1000*1000", -1000000000000L);
        worth("0-1000*1000*1000*1000-1", error);
        worth("1000*1000*1000*1000*(1000*1000*1000*1000)", error);
        worth("1000*1000*1000*1000*(0-9999)", error);
        worth("1000*1000*1000*1000*(0-1)", -1000000000000L);
        worth("1000*1000*1000*1000*0", 0);
        worth("pinch+corns+by+zone+much+layers+year", 29 + 4 + 20);
    }

    private static void lay() {
        T.about("promise 11");
        LastHouse x = told(PLAIN + "law thick 0;");
        due("lay 20", x.lay(0, 7, 20), 40);
        due("lay -20", x.lay(0, 7, -20), 20);
        due("lay -20", x.lay(0, 7, -20), 0);
        due("lay below 0", x.lay(0, 7, -20), -20);
        due("lay 21", x.lay(0, 7, 21), LEAST);
        due("lay -21", x.lay(0, 7, -21), LEAST);
        due("lay 0", x.lay(0, 7, 0), LEAST);
        due("zone 8", x.lay(0, 8, 1), LEAST);
        due("zone -1", x.lay(0, -1, 1), LEAST);
        due("house 3", x.lay(3, 0, 1), LEAST);
        due("house -1", x.lay(-1, 0, 1), LEAST);
        due("layers", x.layer(0, 0, 0), 4);
        for (int k = 4; k < 12; k++) {
            due("lay", x.lay(0, 0, 1), 20 + k - 3);
        }
        due("a thirteenth", x.lay(0, 1, 1), LEAST);
        due("layers", x.layer(0, 0, 0), 12);
        due("refused", x.count(8), 0);
    }

    private static void peel() {
        T.about("promise 12");
        LastHouse x = told(PLAIN);
        due("none", x.peel(0), NONE);
        x.lay(0, 1, 5);
        x.lay(0, 2, -6);
        due("peel", x.peel(0), 1);
        due("last(0, 2)", x.last(0, 2), 20);
        due("last(0, 1)", x.last(0, 1), 25);
        due("peel", x.peel(0), 0);
        due("last(0, 1)", x.last(0, 1), 20);
        due("peel none", x.peel(0), NONE);
        due("house 3", x.peel(3), NONE);
        due("house -1", x.peel(-1), NONE);
    }

    private static void move() {
        T.about("promise 13");
        LastHouse x = told(PLAIN + "wed ma mb 0;");
        T.due("to its own house", x.move(0, 0), false);
        T.due("to another", x.move(0, 2), true);
        due("house", Tester.man(x, 0, 0), 2);
        due("pinch", Tester.man(x, 0, 6), 17 + 7 * 12);
        T.due("man 3", x.move(3, 0), false);
        T.due("man -1", x.move(-1, 0), false);
        T.due("house 3", x.move(0, 3), false);
        T.due("house -1", x.move(0, -1), false);
        x.go(1);
        due("wed", Tester.man(x, 1, 5), 1);
        T.due("moves when wed", x.move(1, 0), true);
        due("wed stays", Tester.man(x, 1, 5), 1);
    }

    private static void go() {
        T.about("promise 14");
        LastHouse x = told(PLAIN);
        due("go(0)", x.go(0), 0);
        due("go(-1)", x.go(-1), NONE);
        due("go(201)", x.go(201), NONE);
        due("year", x.count(4), 0);
        due("go(200)", x.go(200), 200);
        for (int k = 2; k <= 45; k++) {
            due("go(200)", x.go(200), 200 * k);
        }
        due("go(1) behind 9000", x.go(1), NONE);
        due("go(0) at 9000", x.go(0), 9000);
        due("corns at most", Tester.man(x, 0, 4), 999);
        due("bump at most", Tester.man(x, 0, 3), 60);
        LastHouse y = told(PLAIN);
        for (int k = 0; k < 44; k++) {
            y.go(200);
        }
        due("go(199)", y.go(199), 8999);
        due("go(2)", y.go(2), NONE);
        due("go(1)", y.go(1), 9000);
    }

    /** Deeds by their numbers in their year, thick cut to 0 .. 20, bear to 0 .. 999, corn to 0 .. 9. */
    private static void goByLaws() {
        T.about("promise 14, laws");
        LastHouse x = told("house h 20;add h 0 5 1;slice h 0 7 0;add h 1 9 1;law thick by*10-60;");
        x.go(1);
        due("slice of 10", x.last(0, 0), 10);
        x.go(1);
        due("add of -10 is 0", x.last(0, 0), 10);
        due("add of 30 is 20", x.last(0, 1), 40);
        due("a layer of 0 is one", x.layer(0, 0, 0), 3);
        LastHouse e = told("house h 20;add h 0 5 0;law thick 1/0;man m h 30 0 0;law bear 1/0;law corn 1/0;");
        e.go(1);
        due("thick with an error", e.last(0, 0), 25);
        due("corn with an error", Tester.man(e, 0, 3), 1);
        LastHouse much = told("house h 20;add h 3 5 0;add h 3 5 0;law thick much-20+layers+1;");
        much.go(1);
        due("much as it is", much.last(0, 3), 20 + 1 + 3);
        wears("house h 20;man m h 21 0 2;", 0, 2);
        wears("house h 20;man m h 21 0 3;", 1, 4);
        wears("house h 20;man m h 21 0 3;law bear 11;", 0, 3);
        wears("house h 20;man m h 21 0 3;law bear 10;", 1, 4);
        wears("house h 20;man m h 20 0 1;law bear 0-5;law corn 99;", 1, 10);
        wears("house h 20;man m h 20 0 0;law bear 0-5;law corn 99;", 0, 0);
        wears("house h 20;man m h 20 0 1;law bear 0;law corn 0-3;", 1, 1);
        wears("house h 20;man m h 20 0 1;law bear year;law corn corns+7;", 1, 8);
        wears("house h 0;man m h 99 0 20;law bear 9999;", 0, 20);
        LastHouse most = told("house h 0;man m h 99 0 20;man n h 99 0 20;law bear 999+(year>0);law corn 9;");
        most.go(5);
        due("corns", Tester.man(most, 0, 4), 0);
        LastHouse bears = told("house h 0;man m h 99 0 20;law bear 9999;");
        for (int k = 0; k < 9; k++) {
            bears.lay(0, 0, -20);
        }
        bears.lay(0, 0, -7);
        bears.go(1);
        due("a pinch of 999", Tester.man(bears, 0, 4), 0);
        bears.lay(0, 0, -1);
        bears.go(1);
        due("a pinch of 1000", Tester.man(bears, 0, 4), 1);
        LastHouse full = told(PLAIN + "add ha 0 1 0;add ha 0 1 0;add ha 0 1 1;");
        for (int k = 0; k < 11; k++) {
            full.lay(0, 0, 1);
        }
        full.go(1);
        due("refused", full.count(8), 1);
        full.go(1);
        due("refused", full.count(8), 2);
        due("layers", full.layer(0, 0, 0), 12);
    }

    private static void wears(String text, int corns, int bump) {
        LastHouse x = told(text);
        x.go(1);
        due("corns of " + text, Tester.man(x, 0, 4), corns);
        due("bump of " + text, Tester.man(x, 0, 3), bump);
    }

    private static void goDamp() {
        T.about("promise 14, damp and strip");
        LastHouse x = told("house h 99;damp 100;seed 5;strip 3;strip 3;add h 0 5 2;add h 1 5 3;");
        x.go(3);
        due("three damp years", x.last(0, 7), 102);
        due("with a layer", x.last(0, 0), 107);
        x.go(1);
        due("stripped", x.last(0, 0), 99);
        due("layers gone", x.count(6), 0);
        for (int k = 0; k < 5; k++) {
            x.go(200);
        }
        due("wood at most", x.last(0, 0), 999);
        x.lay(0, 0, 4);
        x.go(1);
        due("a last above it", x.last(0, 0), 1003);
        // The numbers by seed 0: 0, 21468, 9988, 22117: modulo 100 these are 0, 68, 88, 17.
        LastHouse once = told("house h 10;strip 1;");
        once.lay(0, 0, 1);
        once.go(1);
        due("not yet", once.last(0, 0), 11);
        once.go(1);
        due("stripped once", once.last(0, 0), 10);
        LastHouse y = told("house h 10;damp 18;");
        int[] want = {11, 11, 11, 12};
        for (int year = 0; year < 4; year++) {
            y.go(1);
            due("damp in year " + year, y.last(0, 0), want[year]);
        }
        LastHouse z = told("house h 10;damp 17;");
        z.go(4);
        due("17 is not below 17", z.last(0, 0), 11);
    }

    private static void goWeddings() {
        T.about("promise 14, weddings");
        LastHouse x = told(PLAIN + "man md hc 10 0 0;wed ma mb 0;wed ma mc 0;wed mb mc 1;wed md mc 1;");
        x.lay(0, 0, -20);
        x.lay(1, 0, -20);
        x.lay(1, 0, -20);
        x.lay(1, 0, -3);
        x.go(1);
        due("wood in zone 0, cut towards 0", x.last(0, 0), -6);
        due("wood in zone 1", x.last(0, 1), 25);
        due("layers gone", x.layer(0, 0, 0), 0);
        due("the former last stays", x.last(1, 0), -13);
        due("its layers stay", x.layer(1, 0, 0), 3);
        due("mb is of ha", Tester.man(x, 1, 0), 0);
        due("wed", x.count(7), 2);
        due("refused", x.count(8), 1);
        x.go(1);
        due("wed already; of one house", x.count(8), 3);
        LastHouse second = told(PLAIN + "wed mb ma 0;");
        second.go(1);
        due("the first one's house is the second house", second.last(1, 3), 25);
        due("the first house stays", second.last(0, 3), 20);
        due("ma is of it", Tester.man(second, 0, 0), 1);
        due("mc is not wed", Tester.man(x, 2, 5), 0);
    }

    private static void ahead() {
        T.about("promise 15");
        LastHouse x = told(PLAIN + "add ha 0 6 1;wed ma mb 3;wed ma mc 3;damp 50;");
        // Damp as it goes: each year. PINCH of ma 21, with a bump by 1 more but all wood 1 more: 14.
        due("corns more in a year", x.ahead(1, 0, 99), 1);
        due("corns of ma", x.ahead(1, 1, 0), 1);
        due("corns of mc", x.ahead(9, 1, 2), 0);
        due("last", x.ahead(1, 2, 2), 88);
        due("last", x.ahead(2, 2, 0), 160 + 16 + 6);
        due("wed", x.ahead(3, 3, -7), 0);
        due("wed", x.ahead(4, 3, -7), 2);
        due("refused", x.ahead(4, 4, -7), 1);
        LastHouse again = told(PLAIN + "wed ma mb 0;wed ma mc 0;wed ma mc 1;wed mb mc 2;");
        again.go(1);
        due("refused more", again.ahead(9, 4, 0), 2);
        due("n 0", x.ahead(0, 0, 0), 0);
        due("n 0, last", x.ahead(0, 2, 0), 160);
        due("n -1", x.ahead(-1, 0, 0), LEAST);
        due("n 201", x.ahead(201, 0, 0), LEAST);
        due("n 200", x.ahead(200, 2, 2), 80 + 1600);
        due("what 5", x.ahead(1, 5, 0), LEAST);
        due("what -1", x.ahead(1, -1, 0), LEAST);
        due("man 3", x.ahead(1, 1, 3), LEAST);
        due("man -1", x.ahead(1, 1, -1), LEAST);
        due("house 3", x.ahead(1, 2, 3), LEAST);
        due("house -1", x.ahead(1, 2, -1), LEAST);
        due("nothing went by", x.count(4), 0);
        due("nothing was drawn", x.last(0, 0), 20);
        due("dry as it goes", told("house h 7;damp 49;").ahead(9, 2, 0), 56);
        LastHouse y = told(PLAIN);
        y.go(3);
        due("corns more from now", y.ahead(2, 0, 0), 2);
        due("corns then", y.ahead(2, 1, 0), 5);
    }

    private static void firstCorn() {
        T.about("promise 16");
        LastHouse x = told("house h 20;house g 20;man m h 20 0 0;man n h 20 1 9;man o g 21 1 1;"
                + "add g 4 1 1;slice h 0 2 3;");
        due("in how many years", x.firstCorn(0), 4);
        due("who", x.firstCorn(1), 1);
        due("what 2", x.firstCorn(2), NONE);
        due("what -1", x.firstCorn(-1), NONE);
        due("not by then", told("house h 20;man m h 20 0 10;").firstCorn(0), -2);
        due("not by then", told("house h 20;man m h 20 0 10;").firstCorn(1), -2);
        due("no folk", new LastHouse().firstCorn(0), -2);
        due("at once", told(PLAIN).firstCorn(0), 1);
        LastHouse several = told("house h 20;man m h 20 0 0;man n h 30 0 9;man o h 40 0 0;");
        due("the first of several", several.firstCorn(1), 1);
        due("in 199 years", told("house h 20;man m h 20 0 1;law bear year < 198;").firstCorn(0), 199);
        due("not in 200 years", told("house h 20;man m h 20 0 1;law bear year < 199;").firstCorn(0), -2);
        LastHouse most = told("house h 20;man m h 40 0 1;");
        for (int k = 0; k < 5; k++) {
            most.go(200);
        }
        due("no corn above 999", most.firstCorn(0), -2);
    }

    private static void nearest() {
        T.about("promise 17");
        LastHouse x = told(PLAIN + "man md ha 15 0 0;");
        due("ma", x.nearest(0), 0);
        due("mb, the first of several", x.nearest(1), 0);
        due("mc", x.nearest(2), 2);
        due("md, the first of several", x.nearest(3), 0);
        x.lay(0, 0, 3);
        due("md", x.nearest(3), 2);
        due("man 4", x.nearest(4), NONE);
        due("man -1", x.nearest(-1), NONE);
        due("no houses", new LastHouse().nearest(0), NONE);
    }

    private static void likeness() {
        T.about("promise 18");
        LastHouse x = told(PLAIN);
        due("likeness(0, 1)", x.likeness(0, 1), 80);
        due("likeness(1, 0)", x.likeness(1, 0), 80);
        x.lay(0, 0, 15);
        due("with a layer", x.likeness(0, 1), 75);
        due("alike", x.likeness(1, 1), NONE);
        due("house 3", x.likeness(3, 0), NONE);
        due("house 3", x.likeness(0, 3), NONE);
        due("house -1", x.likeness(-1, 0), NONE);
        due("house -1", x.likeness(0, -1), NONE);
    }

    private static void heart() {
        T.about("promise 19");
        LastHouse x = told(PLAIN);
        x.lay(1, 4, -20);
        x.lay(1, 4, -20);
        x.lay(2, 3, 20);
        due("zone 4", x.heart(4), -10);
        due("zone 3", x.heart(3), 20);
        due("zone 7", x.heart(7), 10);
        due("zone 8", x.heart(8), LEAST);
        due("zone -1", x.heart(-1), LEAST);
        due("no houses", new LastHouse().heart(0), LEAST);
    }

    private static void ease() {
        T.about("promise 20");
        LastHouse x = told("house h 20;man m h 20 0 0;");
        x.lay(0, 0, 3);
        x.lay(0, 1, 5);
        x.lay(0, 0, -3);
        x.lay(0, 2, 5);
        due("as it is", x.ease(0, 10), 0);
        due("one of two, the least", x.ease(0, 9), 2);
        due("one", x.ease(0, 5), 2);
        due("two", x.ease(0, 4), 10);
        due("two", x.ease(0, 0), 10);
        x.lay(0, 3, 10);
        due("the fewest, not the least", x.ease(0, 10), 16);
        LastHouse y = told("house h 20;man m h 22 0 0;");
        y.lay(0, 0, 1);
        due("by none", y.ease(0, 14), -2);
        due("just so", y.ease(0, 15), 0);
        due("n 9999", y.ease(0, 9999), 0);
        due("n 10000", y.ease(0, 10000), NONE);
        due("n -1", y.ease(0, -1), NONE);
        due("man 1", y.ease(1, 0), NONE);
        due("man -1", y.ease(-1, 0), NONE);
        LastHouse other = told("house h 20;house g 30;man m g 30 0 0;");
        other.lay(0, 0, 1);
        other.lay(1, 0, 2);
        other.lay(1, 0, 3);
        due("of the second house", other.ease(0, 2), 2);
        LastHouse all = told("house h 20;man m h 20 0 0;");
        for (int k = 0; k < 12; k++) {
            all.lay(0, k % 8, 2);
        }
        due("all twelve", all.ease(0, 0), 4095);
        due("all but the last", all.ease(0, 2), 2047);
        due("the last stays as it is", all.layer(0, 0, 0), 12);
    }

    private static String pairs(LastHouse x) {
        StringBuilder s = new StringBuilder();
        for (int what = 0; what <= 7; what++) {
            s.append(what == 0 ? "" : ",").append(x.match(what));
        }
        return s.toString();
    }

    private static void match() {
        T.about("promise 21");
        T.dueRow("three by three", pairs(told(PLAIN)), "0,1,2,-2,-2,-2,3,63");
        String houses = "house a 10;house b 20;house c 30;";
        T.dueRow("folk fewer", pairs(told(houses + "man m a 30 0 0;man n a 10 0 0;")), "1,-2,0,-2,-2,-2,2,0");
        T.dueRow("folk more", pairs(told("house a 10;man m a 30 0 0;man n a 11 0 0;man o a 9 0 0;")),
                "1,-2,-2,-2,-2,-2,1,8");
        T.dueRow("the first of several", pairs(told("house a 10;house b 10;man m a 9 0 0;man n a 8 0 0;")),
                "0,1,-2,-2,-2,-2,2,24");
        T.dueRow("none is last", pairs(told("house a 10;house b 10;man m a 9 0 0;")), "0,-2,-2,-2,-2,-2,1,8");
        T.dueRow("not the nearest for the first",
                pairs(told("house a 10;house b 20;man m a 14 0 0;man n a 8 0 0;man o b 40 0 0;")),
                "1,0,-2,-2,-2,-2,2,64");
        T.dueRow("no folk", pairs(told(houses)), "-2,-2,-2,-2,-2,-2,0,0");
        T.dueRow("all", pairs(told("house a 10;house b 20;house c 30;house d 40;house e 50;house f 60;man a a 61 0 0;"
                + "man b a 52 0 0;man c a 43 0 0;man d a 34 0 0;man e a 25 0 0;man f a 16 0 0;man g a 9 0 0;"
                + "man h a 11 0 8;")), "6,5,3,2,1,0,6,120");
        due("what 8", told(PLAIN).match(8), NONE);
        due("what -1", told(PLAIN).match(-1), NONE);
    }

    private static void join() {
        T.about("promise 22");
        due("three", told(PLAIN).join(), 160);
        due("none", new LastHouse().join(), 0);
        due("one", told("house a 9;").join(), 0);
        due("six", told("house a 10;house b 50;house c 12;house d 47;house e 11;house f 90;").join(),
                8 * (1 + 1 + 35 + 3 + 40));
        LastHouse x = told("house a 10;house b 10;house c 10;");
        x.lay(0, 0, 5);
        x.lay(1, 1, 5);
        x.lay(2, 2, 5);
        due("by layers", x.join(), 20);
    }

    private static void games(LastHouse x, String want) {
        T.dueRow("game", x.game(0) + "," + x.game(1) + "," + x.game(2), want);
    }

    private static void game() {
        T.about("promise 23");
        LastHouse x = told(PLAIN);
        games(x, "1,-2,-2");
        for (int k = 0; k < 4; k++) {
            x.lay(1, 0, 1);
        }
        games(x, "1,-2,-2");
        x.lay(2, 0, 1);
        // Four and one: three off the four leave one and one.
        games(x, "0,1,3");
        x.lay(0, 0, 1);
        games(x, "1,-2,-2");
        x.lay(1, 0, 1);
        games(x, "0,0,1");
        x.peel(0);
        x.peel(1);
        x.peel(1);
        x.peel(1);
        games(x, "0,1,1");
        x.peel(2);
        games(x, "0,1,2");
        due("game(3)", x.game(3), NONE);
        due("game(-1)", x.game(-1), NONE);
    }

    private static void resting(LastHouse x, String want) {
        StringBuilder s = new StringBuilder().append(x.rests(0, 1));
        for (int k = 0; k < 4; k++) {
            s.append(",").append(x.rest(0, 1, k));
        }
        T.dueRow("rests", s.toString(), want);
    }

    private static void rests() {
        T.about("promises 24, 25");
        // No layers: (20, 20), (like / 4, 0), like / 8.
        resting(told("house a 10;house b 20;"), "1,0,-2,-2,-2");
        resting(told("house a 10;house b 10;"), "2,0,11,-2,-2");
        LastHouse x = told("house a 10;house b 10;");
        for (int k = 0; k < 12; k++) {
            x.lay(0, 0, 1);
            x.lay(1, 0, 1);
        }
        // Twelve each, alike: both rasp 8, rasp alone 0, yield to a rasp 12, both yield 0: three rests, and both yield.
        resting(x, "3,1,10,11,-2");
        LastHouse y = told("house a 10;house b 20;");
        for (int k = 0; k < 12; k++) {
            y.lay(0, 0, 1);
            y.lay(1, 0, 1);
        }
        // LIKENESS 80: rasp alone 20, both yield 10.
        resting(y, "2,1,10,-2,-2");
        LastHouse z = told("house a 10;house b 20;");
        for (int k = 0; k < 12; k++) {
            z.lay(0, 0, 1);
        }
        // LIKENESS 70 + 2: a yields to a rasp (12 above 8), b rasps.
        resting(z, "1,10,-2,-2,-2");
        due("the other way round", z.rest(1, 0, 0), 1);
        for (int[] pair : new int[][] {{0, 0}, {0, 2}, {2, 0}, {-1, 0}, {0, -1}}) {
            due("rests", z.rests(pair[0], pair[1]), NONE);
            due("rest", z.rest(pair[0], pair[1], 0), NONE);
        }
        due("k -1", z.rest(0, 1, -1), NONE);
        LastHouse ten = told("house a 10;house b 10;");
        for (int k = 0; k < 10; k++) {
            ten.lay(0, 0, 1);
            ten.lay(1, 0, 1);
        }
        // Both rasp 10, yield to a rasp 10: nobody would have more.
        resting(ten, "4,0,1,10,11");
        LastHouse near = told("house a 10;house b 10;");
        near.lay(0, 0, 3);
        // LIKENESS 3: both yield 0, and rasp alone 0.
        resting(near, "2,0,11,-2,-2");
        near.lay(0, 0, 1);
        // LIKENESS 4: who rasps alone has 1.
        resting(near, "1,0,-2,-2,-2");
    }

    private static void dry() {
        T.about("promise 26");
        LastHouse x = told("damp 30;");
        due("dry(0, 0)", x.dry(0, 0), 1);
        due("dry(0, 1)", x.dry(0, 1), 1);
        due("dry(6, 0)", x.dry(6, 0), 117649);
        due("dry(6, 1)", x.dry(6, 1), 1000000);
        due("dry(7, 0)", x.dry(7, 0), NONE);
        due("dry(-1, 0)", x.dry(-1, 0), NONE);
        due("dry(1, 2)", x.dry(1, 2), NONE);
        due("dry(1, -1)", x.dry(1, -1), NONE);
        LastHouse wet = told("damp 100;");
        due("never dry", wet.dry(3, 0), 0);
        due("never dry", wet.dry(3, 1), 1);
        due("none is damp", wet.dry(0, 0), 1);
        LastHouse most = told("damp 1;");
        due("above", most.dry(6, 0), 941480149401L);
        due("below", most.dry(6, 1), 1000000000000L);
        due("always dry", new LastHouse().dry(6, 1), 1);
    }

    private static void sums() {
        T.about("promises 27, 28");
        LastHouse x = told(PLAIN);
        x.lay(2, 1, -20);
        due("sum(2)", x.sum(2), 60);
        due("sum(3)", x.sum(3), LEAST);
        due("sum(-1)", x.sum(-1), LEAST);
        due("settle(0, 1, 0)", x.settle(0, 1, 0), 25);
        due("settle(1, 2, 1)", x.settle(1, 2, 1), 10);
        x.lay(2, 1, -15);
        x.lay(0, 1, -20);
        due("settle(0, 2, 1), cut towards 0", x.settle(0, 2, 1), -12);
        due("settle(0, 0, 0)", x.settle(0, 0, 0), LEAST);
        due("settle(0, 3, 0)", x.settle(0, 3, 0), LEAST);
        due("settle(-1, 0, 0)", x.settle(-1, 0, 0), LEAST);
        due("settle(0, 1, 8)", x.settle(0, 1, 8), LEAST);
        due("settle(0, 1, -1)", x.settle(0, 1, -1), LEAST);
    }

    private static void knee() {
        T.about("promise 29");
        LastHouse x = told(PLAIN);
        due("none has any", x.knee(), 0);
        x.lay(2, 0, 1);
        due("knee", x.knee(), 2);
        x.lay(1, 0, -1);
        due("the first of several", x.knee(), 1);
        due("no houses", new LastHouse().knee(), -2);
    }

    private static void walkers() {
        T.about("promises 30, 31");
        LastHouse x = told(PLAIN);
        due("walkers", x.walkers(), 2);
        x.lay(2, 7, 2);
        due("walkers", x.walkers(), 6);
        x.lay(0, 0, 7);
        for (int zone = 1; zone < 8; zone++) {
            due("not yet", x.walkers(), 6);
            x.lay(0, zone, 2);
        }
        due("all walk", x.walkers(), 7);
        due("no folk", new LastHouse().walkers(), 0);
        due("barest", x.barest(), 2);
        due("the first of several", told("house h 9;man a h 3 0 9;man b h 4 1 0;man c h 3 2 8;").barest(), 1);
        due("no folk", new LastHouse().barest(), -2);
        LastHouse y = told("house h 3;man a h 2 0 7;man b h 3 0 0;law bear 0;law corn 9;");
        due("at first", y.barest(), 0);
        y.go(1);
        due("by a bump that grew", y.barest(), 1);
    }

    private static void see() {
        T.about("promises 32, 33");
        LastHouse x = told(PLAIN);
        due("see", x.see(60, 2, 99, false), 0);
        due("see", x.see(1, 0, 0, true), 1);
        due("years 0", x.see(0, 0, 0, true), NONE);
        due("years 61", x.see(61, 0, 0, true), NONE);
        due("man 3", x.see(1, 3, 0, true), NONE);
        due("man -1", x.see(1, -1, 0, true), NONE);
        due("corns -1", x.see(1, 0, -1, true), NONE);
        due("corns 100", x.see(1, 0, 100, true), NONE);
        due("strike", x.strike(1), 2);
        due("strike a strike", x.strike(2), 3);
        due("strike itself", x.strike(4), NONE);
        due("strike -1", x.strike(-1), NONE);
        for (int k = 4; k < 24; k++) {
            due("up to 24", k % 2 == 0 ? x.see(1, 0, 0, true) : x.strike(0), k);
        }
        due("a 25th", x.see(1, 0, 0, true), NONE);
        due("a 25th strike", x.strike(0), NONE);
        due("seen", x.count(10), 24);
        due("bumps by 24", x.bumps(0), 0x1fffff);
    }

    private static void known() {
        T.about("promise 34");
        LastHouse x = told("house h 20;man m h 20 0 0;law bear 10;");
        due("known(0)", x.known(0) ? 1 : 0, 1);
        T.due("known(1) of none", x.known(1), false);
        T.due("known(-2)", x.known(-2), false);
        x.known(-1);
        x.see(1, 0, 1, true);
        due("0: a corn in the first year", x.bumps(0), 0x1ff800);
        x.see(1, 0, 1, false);
        due("1: none", x.bumps(0), 0);
        x.strike(0);
        due("2: 0 is struck", x.bumps(0), 0x7ff);
        x.strike(2);
        due("3: the strike is struck", x.bumps(0), 0);
        x.strike(3);
        due("4: and that one", x.bumps(0), 0x7ff);
        x.strike(1);
        due("5: both are struck", x.bumps(0), 0x1fffff);
        due("known by", x.count(11), 6);
        T.due("known(7)", x.known(7), false);
        T.due("known(4)", x.known(4), true);
        due("known by 4", x.bumps(0), 0);
        due("known by", x.count(11), 4);
        x.see(1, 0, 0, false);
        due("those to come don't count", x.bumps(0), 0);
        due("known by", x.count(11), 4);
        T.due("known(1)", x.known(1), true);
        due("known by 1", x.bumps(0), 0x1ff800);
        x.known(0);
        due("known by none", x.bumps(0), 0x1fffff);
        x.known(-1);
        due("known by all", x.count(11), 7);
        due("fewer than 0 corns", x.bumps(0), 0);
        x.strike(6);
        due("also those to come", x.bumps(0), 0x1fffff);
        T.due("known(8)", x.known(8), true);
    }

    private static void bumps() {
        T.about("promise 35");
        LastHouse x = told(PLAIN);
        due("all", x.bumps(0), 0x1fffff);
        due("man 3", x.bumps(3), NONE);
        due("man -1", x.bumps(-1), NONE);
        // Of ma 16 are pinched without a bump: a corn in any case. Of mc only a bump above 10.
        x.see(1, 2, 0, true);
        x.see(3, 2, 3, true);
        due("mc", x.bumps(2), 0x1ff800);
        due("ma: mc's bump as told doesn't fit", x.bumps(0), 0);
        x.lay(2, 7, 20);
        x.go(5);
        x.move(2, 1);
        due("nothing done by call counts", x.bumps(2), 0x1ff800);
        LastHouse y = told("house h 20;man m h 20 0 0;damp 50;law corn 3;");
        // As it goes damp each year, all that pinches is the bump: b, b + 3 - 1 ..: a corn each year, if above 10 at first.
        y.see(4, 0, 4, true);
        due("damp as it goes", y.bumps(0), 0x1ff800);
        LastHouse z = told("house h 20;man m h 20 0 0;damp 50;law corn 0;");
        // b - year above 10: corns are b - 10, if that is below the years.
        z.see(5, 0, 3, true);
        z.see(5, 0, 4, false);
        due("just three corns", z.bumps(0), 1 << 13);
    }

    private static void ask() {
        T.about("promise 36");
        LastHouse x = told("house h 20;man m h 20 0 0;damp 50;law corn 0;");
        // Corns behind n years: b - 10, at least 0, at most n: ask for one: eleven have none, ten have one.
        due("how many", x.ask(0, 60, 0), 1);
        due("left", x.ask(0, 60, 1), 11);
        x.see(1, 0, 1, true);
        // Bumps 11 .. 20, corns 1 .. 10: at least six or fewer: five each.
        due("how many", x.ask(0, 60, 0), 6);
        due("left", x.ask(0, 60, 1), 5);
        due("in three years", x.ask(0, 3, 0), 3);
        due("in three years left", x.ask(0, 3, 1), 8);
        due("in a year", x.ask(0, 1, 0), 1);
        due("in a year left", x.ask(0, 1, 1), 10);
        x.see(1, 0, 1, false);
        due("there are none", x.ask(0, 60, 0), 1);
        due("there are none", x.ask(0, 60, 1), 0);
        x.known(1);
        due("known by one", x.ask(0, 60, 0), 6);
        LastHouse y = told("house h 20;man m h 20 0 0;law bear 12*(year=0);");
        // A bump of 0: no corn; 1 .. 12: 59 behind 60 years; above: 60.
        due("sixty", y.ask(0, 60, 0), 60);
        due("thirteen have fewer", y.ask(0, 60, 1), 13);
        due("man 1", x.ask(1, 1, 0), NONE);
        due("man -1", x.ask(-1, 1, 0), NONE);
        due("n 0", x.ask(0, 0, 0), NONE);
        due("n 61", x.ask(0, 61, 0), NONE);
        due("what 2", x.ask(0, 1, 2), NONE);
        due("what -1", x.ask(0, 1, -1), NONE);
    }

    private static void chance() {
        T.about("promise 37");
        LastHouse x = told("house h 20;man m h 20 0 11;damp 18;law corn 0;");
        // Each year a number; without damp in the first year there are two corns behind two years, else one.
        // Numbers by seed 0 modulo 100: 0 68 88 17 68 90 27 46 34 96 ..
        int number = 0;
        int dry = 0;
        for (int k = 0; k < 20; k++) {
            number = number * 1103515245 + 12345 & 0x7fffffff;
            if (k % 2 == 0 && (number >> 16) % 100 >= 18) {
                dry++;
            }
        }
        due("one behind another", x.chance(0, 2, 0, 2), dry);
        due("at least one", x.chance(0, 2, 0, 1), 10);
        due("at least none", x.chance(2147483647, 99, 0, 0), 10);
        due("three", x.chance(0, 2, 0, 3), 0);
        due("n 1", x.chance(0, 1, 0, 1), 10);
        due("seed -1", x.chance(-1, 2, 0, 2), NONE);
        due("n 0", x.chance(0, 0, 0, 2), NONE);
        due("n 100", x.chance(0, 100, 0, 2), NONE);
        due("man 1", x.chance(0, 2, 1, 2), NONE);
        due("man -1", x.chance(0, 2, -1, 2), NONE);
        due("corns -1", x.chance(0, 2, 0, -1), NONE);
        due("corns 100", x.chance(0, 2, 0, 100), NONE);
        due("corns 99", x.chance(0, 2, 0, 99), 0);
        x.go(1);
        due("the numbers of the years aren't used", x.last(0, 0), 21);
        LastHouse y = told("house h 20;man m h 20 0 11;damp 100;law corn 0;");
        due("always damp", y.chance(3, 5, 0, 2), 0);
        due("always damp", y.chance(3, 5, 0, 1), 10);
        y.keep();
        y.lay(0, 0, -2);
        due("from now on", y.chance(3, 5, 0, 3), 10);
    }

    private static void tried() {
        T.about("promise 38");
        LastHouse x = told("house h 20;house g 20;man m h 20 0 11;man n g 20 0 13;add h 0 9 0;slice g 1 4 1;"
                + "wed m n 2;damp 50;law corn 0;");
        // As it goes: m is pinched by 2 at most; n by 13, then 12 + 3, then, of h, by 33 - 26.
        due("as it goes", x.ahead(3, 0, 0), 2);
        // Without damp n, of h, is pinched by 33 - 24 and 20 - 18 each year.
        due("0 no damp", x.tried(0, 0, 3), 3);
        due("0 no damp, longer", x.tried(0, 0, 9), 9);
        due("1 no deeds", x.tried(1, 0, 3), 1 + 3);
        due("2 house 0", x.tried(2, 0, 3), 2);
        due("3 no weddings", x.tried(3, 0, 3), 0 + 3);
        due("4 all bear 0", x.tried(4, 0, 1), 2);
        due("n 0", x.tried(4, 0, 0), 0);
        due("n -1", x.tried(4, 0, -1), NONE);
        due("n 201", x.tried(4, 0, 201), NONE);
        due("n 200", told(PLAIN).tried(0, 0, 200), 200);
        LastHouse later = told(PLAIN);
        later.go(3);
        due("corns more from now", later.tried(0, 0, 2), 2);
        due("what 5", x.tried(5, 0, 1), NONE);
        due("what -1", x.tried(-1, 0, 1), NONE);
        due("i 1 of 0", x.tried(0, 1, 1), NONE);
        due("i 1 of 4", x.tried(4, 1, 1), NONE);
        due("house 2", x.tried(2, 2, 1), NONE);
        due("house -1", x.tried(2, -1, 1), NONE);
        x.lay(1, 0, 20);
        due("2 house 0", x.tried(2, 0, 1), 0);
        due("2 house 1 without its layer", x.tried(2, 1, 1), 1);
        due("it stays", x.layer(1, 0, 0), 1);
        LastHouse bear = told("house h 20;man m h 20 0 1;man n h 20 0 0;law bear 999;");
        due("4 a pinch above 0", bear.tried(4, 0, 7), 7);
        due("0 by its law", bear.tried(0, 0, 7), 0);
    }

    private static void undo() {
        T.about("promise 39");
        LastHouse x = told(PLAIN);
        due("none", x.undo(), NONE);
        x.lay(0, 3, 5);
        x.lay(0, 4, -6);
        x.peel(0);
        x.move(1, 2);
        x.peel(2);
        x.move(1, 2);
        due("what can be", x.count(12), 4);
        due("move", x.undo(), 3);
        due("house", Tester.man(x, 1, 0), 1);
        due("peel", x.undo(), 2);
        due("last", x.last(0, 4), 14);
        due("by", x.layer(0, 1, 2), -6);
        due("lay", x.undo(), 1);
        due("last", x.last(0, 4), 20);
        due("lay", x.undo(), 0);
        due("last", x.last(0, 3), 20);
        due("none", x.undo(), NONE);
        for (int k = 0; k < 25; k++) {
            x.move(0, 1 + k % 2);
        }
        due("20 at most", x.count(12), 20);
        LastHouse z = told("house h 20;");
        for (int k = 1; k <= 12; k++) {
            z.lay(0, 0, k);
        }
        for (int k = 1; k <= 12; k++) {
            z.peel(0);
        }
        for (int k = 19; k >= 0; k--) {
            due("undo", z.undo(), k);
        }
        due("the first four stay done", z.layer(0, 0, 0), 4);
        due("as they were", z.last(0, 0), 20 + 1 + 2 + 3 + 4);
        due("the fourth", z.layer(0, 3, 2), 4);
        x.go(0);
        due("no year went by", x.count(12), 20);
        x.keep();
        due("an image changes nothing", x.undo(), 19);
        x.go(1);
        due("a year went by", x.undo(), NONE);
    }

    private static void image() {
        T.about("promises 40, 41");
        LastHouse x = told(PLAIN + "wed ma mb 3;damp 50;seed 7;");
        due("no image", x.back(), NONE);
        x.lay(0, 0, 2);
        x.go(2);
        x.lay(0, 1, 3);
        due("keep", x.keep(), 2);
        String then = all(x);
        x.go(1);
        String next = all(x);
        x.go(7);
        x.see(1, 0, 1, true);
        x.move(0, 2);
        x.lay(1, 1, 1);
        due("back", x.back(), 2);
        T.dueRow("all is as it was", all(x), then);
        due("nothing to undo", x.undo(), NONE);
        due("seen stays", x.count(10), 1);
        x.go(1);
        T.dueRow("the numbers are, too", all(x), next);
        due("back again", x.back(), 2);
        T.dueRow("all is as it was again", all(x), then);
        x.go(5);
        due("keep in place of it", x.keep(), 7);
        x.go(1);
        due("back", x.back(), 7);
    }

    private static String all(LastHouse x) {
        StringBuilder s = new StringBuilder();
        for (int what = 0; what < 10; what++) {
            s.append(x.count(what)).append(' ');
        }
        for (int k = 0; k < 3; k++) {
            for (int what = 0; what < 7; what++) {
                s.append(Tester.man(x, k, what)).append(' ');
            }
            for (int zone = 0; zone < 8; zone++) {
                s.append(x.last(k, zone)).append(' ');
            }
        }
        return s.toString();
    }

    private static void count() {
        T.about("promise 42");
        LastHouse x = told(PLAIN + "add ha 0 6 1;slice hb 3 8 2;wed ma mb 0;wed ma mc 0;law bear 10 + 0;");
        int[] first = {3, 3, 2, 3, 0, 0, 0, 0, 0, 23, 0, 0, 0};
        for (int what = 0; what <= 12; what++) {
            due("count(" + what + ") at first", x.count(what), first[what]);
        }
        x.go(3);
        x.lay(2, 7, 2);
        x.see(1, 0, 1, true);
        x.strike(0);
        x.known(1);
        // ha is 25 from year 0 on, in zone 0 31 from year 1 on: ma's 5 more than 22 pinch by 2 in year 0 alone.
        int[] then = {3, 3, 2, 3, 3, 0, 3, 2, 1, 0, 2, 1, 1};
        for (int what = 0; what <= 12; what++) {
            due("count(" + what + ") then", x.count(what), then[what]);
        }
        due("count(13)", x.count(13), NONE);
        due("count(-1)", x.count(-1), NONE);
    }
}
