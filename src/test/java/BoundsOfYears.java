import java.math.BigInteger;

/** The boundary cases of years that go by, of what comes, of chance and of images: promises 14 to 16, 37, 38, 40, 41. */
public final class BoundsOfYears {
    private static final int NONE = LastHouse.NONE;
    private static final int LEAST = Integer.MIN_VALUE;
    private static final int MOST = Integer.MAX_VALUE;
    private static final int[] NEVER = {LEAST, LEAST + 1, -1000, -2, -1, 8, 100, 1 << 16, 1 << 30, MOST - 1, MOST};
    private static Sentences s;

    public static void main(String[] args) throws Exception {
        s = new Sentences(14, 15, 16, 37, 38, 40, 41);
        go();
        goRefused();
        thick();
        thickOfASlice();
        refusedLayer();
        namesOfLaws();
        byTheirNumbers();
        weddings();
        refusedWeddings();
        bear();
        corn();
        mostCorns();
        damp();
        dampOrNot();
        mostWood();
        strip();
        numbers();
        asItGoes();
        ahead();
        firstCorn();
        chance();
        tried();
        triedWays();
        keep();
        back();
        s.end();
    }

    private static void due(String call, long got, long want) {
        s.due(call, got, want);
    }

    private static LastHouse told(String text) {
        return Tester.told(text);
    }

    private static LastHouse after(String text, int years) {
        LastHouse x = told(text);
        x.go(years);
        return x;
    }

    private static void go() {
        s.says(14, "So many YEARS (0 .. 200) go by: which one it is;");
        LastHouse x = told("house a 1;damp 100;");
        due("go(0)", x.go(0), 0);
        due("none went by", x.last(0, 0), 1);
        due("go(1)", x.go(1), 1);
        due("one went by", x.last(0, 0), 2);
        due("go(200)", x.go(200), 201);
        due("200 went by", x.last(0, 0), 202);
        due("go(0)", x.go(0), 201);
        due("of a new object", new LastHouse().go(200), 200);
    }

    private static void goRefused() {
        s.says(14, "NONE, and none does: no such number, behind 9000.");
        LastHouse x = told("house a 1;damp 100;");
        for (int n : new int[] {-1, -200, 201, 9000, 9001, LEAST, LEAST + 1, MOST, MOST - 100}) {
            due("go(" + n + ")", x.go(n), NONE);
            due("the year", x.count(4), 0);
            due("the last", x.last(0, 0), 1);
        }
        for (int k = 1; k <= 44; k++) {
            due("go(200)", x.go(200), 200 * k);
        }
        due("go(199)", x.go(199), 8999);
        due("go(2) at 8999", x.go(2), NONE);
        due("go(200) at 8999", x.go(200), NONE);
        due("go(most) at 8999", x.go(MOST), NONE);
        due("the year", x.count(4), 8999);
        due("go(1) at 8999", x.go(1), 9000);
        due("go(1) at 9000", x.go(1), NONE);
        due("go(-1) at 9000", x.go(-1), NONE);
        due("go(0) at 9000", x.go(0), 9000);
        due("the year", x.count(4), 9000);
        x.lay(0, 0, 1);
        due("what can be undone", x.count(12), 1);
        x.go(1);
        due("a refused go leaves it", x.count(12), 1);
        due("what comes is asked behind 9000, too", x.ahead(200, 2, 0), 8 * 999 + 1);
    }

    private static void thick() {
        s.says(14, "a LAYER is put on, by E of thick (0 .. 20; as much as told without, with an ERROR; one of 0 is a LAYER, too)");
        String add = "house a 50;add a 3 7 0;";
        due("without", after(add, 1).last(0, 3), 57);
        due("with an error", after(add + "law thick 1/0;", 1).last(0, 3), 57);
        due("with too large a value", after(add + "law thick 9999*9999*9999*9999;", 1).last(0, 3), 57);
        due("with too small a value", after(add + "law thick 0-9999*9999*9999*9999;", 1).last(0, 3), 57);
        due("20", after(add + "law thick 20;", 1).last(0, 3), 70);
        due("21 is 20", after(add + "law thick 21;", 1).last(0, 3), 70);
        due("much is 20", after(add + "law thick 9999*9999*9999;", 1).last(0, 3), 70);
        due("1", after(add + "law thick 1;", 1).last(0, 3), 51);
        due("0", after(add + "law thick 0;", 1).last(0, 3), 50);
        due("0 is a layer", after(add + "law thick 0;", 1).count(6), 1);
        due("0 is a layer of a zone", after(add + "law thick 0;", 1).layer(0, 0, 1), 3);
        due("0 is a layer by 0", after(add + "law thick 0;", 1).layer(0, 0, 2), 0);
        due("-1 is 0", after(add + "law thick 0-1;", 1).last(0, 3), 50);
        due("-1 is a layer", after(add + "law thick 0-1;", 1).count(6), 1);
        due("far below 0 is 0", after(add + "law thick 0-9999*9999*9999;", 1).layer(0, 0, 2), 0);
        due("a multiple of 2 to the 32", after(add + "law thick 1024*1024*1024*4;", 1).last(0, 3), 70);
    }

    private static void thickOfASlice() {
        s.says(14, "of a slice by that much less (a LAST may come to be below 0)");
        String slice = "house a 0;slice a 7 7 0;";
        due("as told", after(slice, 1).last(0, 7), -7);
        due("20 at most", after(slice + "law thick 21;", 1).last(0, 7), -20);
        due("0 at least", after(slice + "law thick 0-21;", 1).last(0, 7), 0);
        due("the layer", after(slice + "law thick 21;", 1).layer(0, 0, 2), -20);
        due("0 is a layer", after(slice + "law thick 0;", 1).layer(0, 0, 0), 1);
        LastHouse x = told("house a 0;" + "slice a 0 20 0;".repeat(12));
        x.go(1);
        due("twelve slices", x.last(0, 0), -240);
    }

    private static void refusedLayer() {
        s.says(14, "if there are 12, it is REFUSED.");
        LastHouse x = after("house a 0;house b 0;" + "add a 0 1 0;".repeat(13) + "add b 0 1 0;", 1);
        due("twelve layers", x.layer(0, 0, 0), 12);
        due("the thirteenth isn't there", x.last(0, 0), 12);
        due("refused", x.count(8), 1);
        due("the other house's deed is done", x.layer(1, 0, 0), 1);
        LastHouse none = after("house a 0;" + "add a 0 1 0;".repeat(12), 1);
        due("twelve aren't refused", none.count(8), 0);
        due("twelve", none.count(6), 12);
        LastHouse zero = after("house a 0;" + "add a 0 1 0;".repeat(12) + "slice a 0 1 1;add a 0 1 1;law thick 0;", 2);
        due("layers of 0 are full, too", zero.count(6), 12);
        due("both are refused", zero.count(8), 2);
        LastHouse y = told("house a 0;add a 0 1 0;add a 0 2 1;");
        for (int k = 0; k < 12; k++) {
            y.lay(0, 1, 1);
        }
        y.go(1);
        due("full by call", y.count(8), 1);
        y.peel(0);
        y.go(1);
        due("there is room again", y.count(8), 1);
        due("the layer is there", y.last(0, 0), 2);
        due("refused more ahead", told("house a 0;" + "add a 0 1 5;".repeat(14)).ahead(6, 4, 0), 2);
        due("not yet", told("house a 0;" + "add a 0 1 5;".repeat(14)).ahead(5, 4, 0), 0);
        due("more than now", after("house a 0;" + "add a 0 1 5;".repeat(14), 6).ahead(6, 4, 0), 0);
    }

    private static void namesOfLaws() {
        s.says(14, "NAMES: by: how much is told of the DEED (of bear, corn 0); zone: its ZONE (of bear, corn that of the BUMP); "
                + "much: the LAST there as it is (of bear, corn that of the HOUSE in the ZONE of the BUMP); pinch: PINCH of the one "
                + "of the FOLK (of thick 0); corns: CORNS of that one (of thick 0); layers: how many LAYERS the LAST has; year: the "
                + "YEAR.");
        String text = "house a 20;house b 30;man m b 50 5 2;add a 4 9 3;add b 5 1 0;";
        String[] names = {"by", "zone", "much", "pinch", "corns", "layers", "year"};
        // Behind three years: the last of b has a layer in zone 5, 31 there, and m three corns, a bump of 5.
        int[] thick = {9, 4, 20, 0, 0, 0, 3};
        int[] bear = {0, 5, 31, 7 * 20 + 24, 3, 1, 3};
        for (int k = 0; k < names.length; k++) {
            LastHouse x = told(text + "law thick " + names[k] + ";");
            LastHouse y = told(text + "law bear " + names[k] + "*(year>2);");
            LastHouse z = told(text + "law corn " + names[k] + "*(year>2)+(year<3);");
            x.go(3);
            y.go(3);
            z.go(3);
            due(names[k] + " of thick", x.law(0, 0), thick[k]);
            due(names[k] + " of thick, in its year", x.ahead(1, 2, 0), 160 + thick[k]);
            due(names[k] + " of corn", z.law(2, 0), bear[k]);
            due(names[k] + " of bear", y.law(1, 0), bear[k]);
            due(names[k] + " of corn, in its year", z.tried(0, 0, 1), 1);
        }
    }

    private static void byTheirNumbers() {
        s.says(14, "DEEDS of this YEAR, by their numbers:");
        // Twelve are full: the two that are told last are refused, whatever they are.
        LastHouse full = after("house a 0;add a 1 9 1;" + "add a 0 1 0;".repeat(11) + "slice a 2 7 0;add a 3 8 0;", 1);
        due("the twelfth of year 0", full.last(0, 2), -7);
        due("the thirteenth of year 0", full.last(0, 3), 0);
        due("refused", full.count(8), 1);
        full.go(1);
        due("told first, but of a later year", full.last(0, 1), 0);
        due("refused", full.count(8), 2);
        s.says(14, "WEDDINGS of this YEAR, by their numbers:");
        String folk = "house a 10;house b 20;man m a 0 0 0;man n b 0 0 0;man o b 0 0 0;";
        LastHouse first = after(folk + "wed m o 0;wed m n 0;", 1);
        due("the first told", Tester.man(first, 2, 5), 1);
        due("the second told", Tester.man(first, 1, 5), 0);
        LastHouse later = after(folk + "wed m o 1;wed m n 0;", 2);
        due("the second told is of an earlier year", Tester.man(later, 1, 5), 1);
        due("the first told is refused", Tester.man(later, 2, 5), 0);
        due("refused", later.count(8), 1);
    }

    private static void weddings() {
        s.says(14, "WOOD of the first one's HOUSE is in each ZONE half the sum of both LASTS, cut towards 0, its LAYERS are gone, "
                + "the second one is of that HOUSE from now on");
        LastHouse x = told("house a 4;house b 1;man m a 0 0 0;man n b 0 0 0;man o b 0 0 0;wed m n 0;");
        x.lay(0, 1, -6);
        x.lay(0, 2, -5);
        x.lay(1, 2, -3);
        x.lay(0, 3, 20);
        x.go(1);
        due("half of 5", x.last(0, 0), 2);
        due("half of -1", x.last(0, 1), 0);
        due("half of -3", x.last(0, 2), -1);
        due("half of 25", x.last(0, 3), 12);
        due("no layers", x.layer(0, 0, 0), 0);
        due("the former house's layer stays", x.layer(1, 0, 0), 1);
        due("the former last stays", x.last(1, 2), -2);
        due("the second one's house", Tester.man(x, 1, 0), 0);
        due("the others stay", Tester.man(x, 2, 0), 1);
        // Wood below 0 goes up by damp as other wood does.
        LastHouse wet = told("house a 0;house b 0;man m a 0 0 0;man n b 0 0 0;wed m n 0;damp 100;");
        wet.lay(0, 5, -8);
        wet.go(1);
        due("-4 and 1", wet.last(0, 5), -3);
        wet.go(4);
        due("past 0", wet.last(0, 5), 1);
    }

    private static void refusedWeddings() {
        s.says(14, "if neither is WED and they are of two HOUSES, both are WED");
        String folk = "house a 10;house b 20;man m a 0 0 0;man n b 0 0 0;man o b 0 0 0;man p a 0 0 0;";
        due("both", after(folk + "wed m n 0;", 1).count(7), 2);
        due("in year 99", told(folk + "wed m n 99;").ahead(99, 3, 0), 0);
        due("in year 99", told(folk + "wed m n 99;").ahead(100, 3, 0), 2);
        s.says(14, "else it is REFUSED.");
        LastHouse first = after(folk + "wed m n 0;wed m o 0;", 1);
        due("the first one is wed", first.count(8), 1);
        due("two are", first.count(7), 2);
        due("o isn't moved", Tester.man(first, 2, 0), 1);
        due("the wood is of the first wedding", first.last(0, 0), 15);
        LastHouse second = after(folk + "wed m n 0;wed o m 0;", 1);
        due("the second one is wed", second.count(8), 1);
        due("house b stays", second.last(1, 0), 20);
        LastHouse both = after(folk + "wed m n 0;wed m n 0;wed n m 0;", 1);
        due("both are wed", both.count(8), 2);
        LastHouse same = after(folk + "wed m p 0;", 1);
        due("of one house", same.count(8), 1);
        due("nobody is wed", same.count(7), 0);
        LastHouse moved = told(folk + "wed m n 0;");
        moved.move(0, 1);
        moved.go(1);
        due("of one house by a call", moved.count(8), 1);
        LastHouse later = told(folk + "wed m n 0;wed o p 1;");
        due("p and o are of two houses", later.ahead(2, 3, 0), 4);
        due("none is refused", later.ahead(2, 4, 0), 0);
    }

    private static void wears(String text, int corns, int bump) {
        LastHouse x = after(text, 1);
        due("corns of " + text, Tester.man(x, 0, 4), corns);
        due("bump of " + text, Tester.man(x, 0, 3), bump);
    }

    private static void bear() {
        s.says(14, "if PINCH on the LAST of the HOUSE is more than E of bear (0 .. 999; 10 without, with an ERROR), there is a "
                + "CORN more");
        String ten = "house a 20;man m a 20 0 10;";
        String eleven = "house a 20;man m a 20 0 11;";
        wears(ten, 0, 10);
        wears(eleven, 1, 12);
        wears(ten + "law bear 1/0;", 0, 10);
        wears(eleven + "law bear 1/0;", 1, 12);
        wears(eleven + "law bear 9999*9999*9999*9999;", 1, 12);
        wears(ten + "law bear 0-9999*9999*9999*9999;", 0, 10);
        wears(ten + "law bear 10;", 0, 10);
        wears(ten + "law bear 9;", 1, 11);
        wears(ten + "law bear pinch;", 0, 10);
        wears(ten + "law bear pinch-1;", 1, 11);
        wears("house a 20;man m a 20 0 1;law bear 0;", 1, 2);
        wears("house a 20;man m a 20 0 0;law bear 0;", 0, 0);
        wears("house a 20;man m a 20 0 1;law bear 0-1;", 1, 2);
        wears("house a 20;man m a 20 0 0;law bear 0-1;", 0, 0);
        wears("house a 20;man m a 20 0 0;law bear 0-9999*9999;", 0, 0);
        bearMost("law bear 999;", 999, 0);
        bearMost("law bear 999;", 1000, 1);
        bearMost("law bear 1000;", 1000, 1);
        bearMost("law bear 9999*9999;", 1000, 1);
        bearMost("law bear 9999;", 999, 0);
        bearMost("law bear 998;", 999, 1);
        bearMost("law bear 998;", 998, 0);
    }

    /** A foot that is pinched by just so much, 999 or about: of 812 by itself, and by slices. */
    private static void bearMost(String law, int pinch, int corns) {
        LastHouse x = told("house a 0;man m a 99 7 20;" + law);
        int left = pinch - 812;
        while (left > 0) {
            int by = Math.min(left, 20);
            x.lay(0, 1, -by);
            left -= by;
        }
        due("pinch", Tester.man(x, 0, 6), pinch);
        x.go(1);
        due("corns by " + law + " with " + pinch, Tester.man(x, 0, 4), corns);
    }

    private static void corn() {
        s.says(14, "and BUMP is more by E of corn (0 .. 9; 1 without, with an ERROR; by the same NAMES), 60 at most.");
        String pinched = "house a 0;man m a 99 7 20;";
        wears(pinched, 1, 21);
        wears(pinched + "law corn 1/0;", 1, 21);
        wears(pinched + "law corn 9999*9999*9999*9999;", 1, 21);
        wears(pinched + "law corn 0;", 1, 20);
        wears(pinched + "law corn 0-1;", 1, 20);
        wears(pinched + "law corn 0-9999*9999;", 1, 20);
        wears(pinched + "law corn 1;", 1, 21);
        wears(pinched + "law corn 9;", 1, 29);
        wears(pinched + "law corn 10;", 1, 29);
        wears(pinched + "law corn 9999*9999;", 1, 29);
        wears(pinched + "law corn 1024*1024*1024*4+1;", 1, 29);
        // By the same names: no corn yet, the pinch as it was.
        wears(pinched + "law corn corns;", 1, 20);
        wears(pinched + "law corn pinch-811;", 1, 21);
        LastHouse x = told(pinched + "law corn 9;");
        for (int want : new int[] {29, 38, 47, 56, 60, 60, 60}) {
            x.go(1);
            due("bump", Tester.man(x, 0, 3), want);
        }
        LastHouse y = told(pinched + "law corn 8;");
        y.go(5);
        due("just 60", Tester.man(y, 0, 3), 60);
        y.go(1);
        due("60 at most", Tester.man(y, 0, 3), 60);
        due("corns go on", Tester.man(y, 0, 4), 6);
    }

    private static void mostCorns() {
        s.says(14, "there is a CORN more, 999 at most");
        LastHouse x = told("house a 0;man m a 99 7 20;man n a 99 0 0;law bear 9*(corns<998)*(zone=0);law corn year=999;");
        for (int k = 0; k < 4; k++) {
            x.go(200);
        }
        x.go(198);
        due("998", Tester.man(x, 0, 4), 998);
        x.go(1);
        due("999", Tester.man(x, 0, 4), 999);
        due("one more year ahead", x.ahead(1, 1, 0), 999);
        due("corns more ahead", x.ahead(200, 0, 0), 0);
        due("no first corn above it", x.firstCorn(0), -2);
        due("nobody", x.firstCorn(1), -2);
        x.go(1);
        due("still 999", Tester.man(x, 0, 4), 999);
        due("the bump is more all the same", Tester.man(x, 0, 3), 21);
        due("of both", x.count(5), 2 * 999);
        x.go(200);
        due("still 999", Tester.man(x, 0, 4), 999);
    }

    /** The number of a year by the document's words, from a seed on. */
    private static int number(BigInteger[] last) {
        last[0] = last[0].multiply(BigInteger.valueOf(1103515245)).add(BigInteger.valueOf(12345))
                .mod(BigInteger.ONE.shiftLeft(31));
        return last[0].divide(BigInteger.valueOf(65536)).intValueExact();
    }

    private static void damp() {
        s.says(14, "it is DAMP: a number modulo 100 of each YEAR (no number, if damp is 0 or 100) below damp");
        for (int damp : new int[] {0, 1, 49, 50, 99, 100}) {
            LastHouse x = told("house a 0;damp " + damp + ";seed 99999;");
            BigInteger[] last = {BigInteger.valueOf(99999)};
            int want = 0;
            for (int year = 0; year < 200; year++) {
                want += number(last) % 100 < damp ? 1 : 0;
                x.go(1);
                due("damp " + damp + ", year " + year, x.last(0, 3), want);
            }
        }
    }

    /** A year whose number modulo 100 is just damp isn't damp; one whose number is one less is. */
    private static void dampOrNot() {
        s.says(14, "below damp: WOOD of each HOUSE is 1 more in each ZONE");
        BigInteger[] last = {BigInteger.ZERO};
        for (int year = 0; year < 60; year++) {
            int number = number(last) % 100;
            if (number > 0) {
                LastHouse x = after("house a 0;house b 0;damp " + number + ";", year);
                int before = x.last(1, 7);
                x.go(1);
                due("number " + number + " isn't below itself", x.last(1, 7), before);
            }
            LastHouse y = after("house a 0;house b 0;damp " + (number + 1) + ";", year);
            int before = y.sum(1);
            y.go(1);
            due("number " + number + " is below one more", y.sum(1), before + 8);
            due("of each house", y.sum(0), before + 8);
        }
        LastHouse six = after("house a 0;house b 0;house c 0;house d 0;house e 0;house f 0;damp 100;", 3);
        for (int h = 0; h < 6; h++) {
            for (int zone = 0; zone < 8; zone++) {
                due("each zone of each of six", six.last(h, zone), 3);
            }
        }
    }

    private static void mostWood() {
        s.says(14, "WOOD of each HOUSE is 1 more in each ZONE, 999 at most.");
        LastHouse x = told("house a 99;house b 98;damp 100;");
        for (int k = 0; k < 4; k++) {
            x.go(200);
        }
        x.go(99);
        due("998", x.last(0, 0), 998);
        x.go(1);
        due("999", x.last(0, 0), 999);
        due("998", x.last(1, 7), 998);
        x.go(1);
        due("still 999", x.last(0, 0), 999);
        due("999", x.last(1, 7), 999);
        x.go(200);
        due("still 999", x.last(1, 7), 999);
        x.lay(0, 0, 20);
        due("a layer is more", x.last(0, 0), 1019);
        x.go(1);
        due("the wood stays below it", x.last(0, 0), 1019);
        x.peel(0);
        due("999", x.last(0, 0), 999);
        x.lay(0, 0, -20);
        x.go(3);
        due("the wood, not the last, is 999 at most", x.last(0, 0), 979);
    }

    private static void strip() {
        s.says(14, "if a strip is told of this YEAR (once or more often): all WOOD is as told, all LAYERS are gone (FEET, HOUSES "
                + "of FOLK stay).");
        LastHouse x = told("house a 5;house b 7;man m a 99 0 0;man n b 0 0 0;wed m n 0;damp 100;strip 0;strip 99;strip 99;");
        x.lay(1, 3, 4);
        x.go(1);
        due("wood as told in year 0, damp or not", x.last(0, 0), 5);
        due("wood as told", x.last(1, 7), 7);
        due("layers", x.count(6), 0);
        due("the corn stays", Tester.man(x, 0, 4), 1);
        due("the bump stays", Tester.man(x, 0, 3), 1);
        due("the house stays", Tester.man(x, 1, 0), 0);
        due("wed stays", x.count(7), 2);
        x.go(98);
        due("98 damp years", x.last(0, 0), 103);
        x.lay(0, 0, 4);
        x.go(1);
        due("stripped in year 99", x.last(0, 0), 5);
        due("layers", x.count(6), 0);
        x.go(1);
        due("the year behind it", x.last(0, 0), 6);
        LastHouse same = told("house a 5;add a 0 3 2;strip 2;");
        same.go(2);
        due("ahead of it", same.count(6), 0);
        same.go(1);
        due("a deed of the year itself is gone, too", same.count(6), 0);
        LastHouse none = told("house a 5;add a 0 3 2;");
        none.go(3);
        due("no strip", none.count(6), 1);
    }

    private static void numbers() {
        s.says(14, "Numbers are the last one (at first the seed) times 1103515245 and 12345, without what is above 31 bits, by "
                + "65536.");
        for (int seed : new int[] {0, 1, 2, 32767, 32768, 65535, 65536, 99998, 99999}) {
            LastHouse x = told("house a 0;damp 37;seed " + seed + ";");
            BigInteger[] last = {BigInteger.valueOf(seed)};
            int want = 0;
            for (int year = 0; year < 50; year++) {
                want += number(last) % 100 < 37 ? 1 : 0;
                x.go(1);
                due("seed " + seed + ", year " + year, x.last(0, 0), want);
            }
        }
    }

    private static void asItGoes() {
        s.says(15, "AS IT GOES: without numbers: it is DAMP, if damp is 50 at least.");
        due("not told", told("house a 0;").ahead(7, 2, 0), 0);
        for (int damp : new int[] {0, 1, 49}) {
            due("damp " + damp, told("house a 0;damp " + damp + ";").ahead(7, 2, 0), 0);
        }
        for (int damp : new int[] {50, 51, 99, 100}) {
            due("damp " + damp, told("house a 0;damp " + damp + ";").ahead(7, 2, 0), 56);
        }
        LastHouse x = told("house a 0;damp 50;seed 3;");
        LastHouse y = told("house a 0;damp 50;seed 3;");
        for (int year = 0; year < 20; year++) {
            y.ahead(year, 2, 0);
            y.firstCorn(0);
            y.tried(3, 0, year);
            y.go(1);
            x.go(1);
            due("what was asked takes no numbers", y.last(0, 0), x.last(0, 0));
        }
    }

    private static void ahead() {
        s.says(15, "AHEAD (n 0 .. 200), what 0 CORNS more, 1 CORNS of man i, 2 the LAST of HOUSE i (may be below 0), 3 WED, 4 "
                + "REFUSED (of 0, 3, 4 i isn't looked at).");
        LastHouse x = told("house a 0;house b 9;man m a 99 7 20;man n b 0 0 0;slice a 0 1 0;wed m n 99;wed m n 1;");
        due("n 0, corns more", x.ahead(0, 0, 0), 0);
        due("n 0, corns of", x.ahead(0, 1, 0), 0);
        due("n 0, last", x.ahead(0, 2, 0), 0);
        due("n 0, wed", x.ahead(0, 3, 0), 0);
        due("n 0, refused", x.ahead(0, 4, 0), 0);
        due("n 1, a last of -1", x.ahead(1, 2, 0), -1);
        due("n 200, corns more", x.ahead(200, 0, 0), 200);
        due("n 200, corns of m", x.ahead(200, 1, 0), 200);
        due("n 200, corns of n", x.ahead(200, 1, 1), 0);
        due("n 200, wed", x.ahead(200, 3, 0), 2);
        due("n 200, refused", x.ahead(200, 4, 0), 1);
        for (int i : NEVER) {
            due("corns more, i " + i, x.ahead(5, 0, i), 5);
            due("wed, i " + i, x.ahead(5, 3, i), 2);
            due("refused, i " + i, x.ahead(100, 4, i), 1);
        }
        due("nothing went by", x.count(4), 0);
        due("nothing was done", x.count(6), 0);
        s.says(15, "Integer.MIN_VALUE: no such ones.");
        for (int what = 0; what <= 4; what++) {
            for (int n : new int[] {-1, 201, LEAST, MOST, 9000}) {
                due("ahead(" + n + ", " + what + ", 0)", x.ahead(n, what, 0), LEAST);
            }
        }
        for (int k : NEVER) {
            due("man " + k, x.ahead(1, 1, k), LEAST);
            due("house " + k, x.ahead(1, 2, k), LEAST);
            due("what " + k, x.ahead(1, k, 0), LEAST);
        }
        due("man 2", x.ahead(1, 1, 2), LEAST);
        due("house 2", x.ahead(1, 2, 2), LEAST);
        due("what 5", x.ahead(1, 5, 0), LEAST);
        due("no folk", told("house a 1;").ahead(1, 1, 0), LEAST);
        due("no houses", new LastHouse().ahead(1, 2, 0), LEAST);
        due("nobody's corns", new LastHouse().ahead(200, 0, 0), 0);
    }

    private static void firstCorn() {
        s.says(16, "FIRST CORN: in how many YEARS as it goes, 199 at most (1: this one), one has a CORN more; who, of several in "
                + "that YEAR the first by numbers.");
        String one = "house a 20;man l a 0 0 0;man m a 20 0 1;man n a 20 0 1;law bear year<";
        due("this year", told(one + "0;").firstCorn(0), 1);
        due("the next", told(one + "1;").firstCorn(0), 2);
        due("198", told(one + "197;").firstCorn(0), 198);
        due("199", told(one + "198;").firstCorn(0), 199);
        due("who, of two", told(one + "198;").firstCorn(1), 1);
        LastHouse later = told(one + "198;");
        later.go(100);
        due("from now on", later.firstCorn(0), 99);
        LastHouse has = told("house a 20;man m a 20 0 1;man n a 20 1 1;law bear (year<50)*zone;");
        has.go(3);
        due("who has corns already needs one more", has.firstCorn(0), 1);
        due("who", has.firstCorn(1), 0);
        due("damp 50, as it goes", told("house a 20;man m a 20 0 11;slice a 0 1 1;damp 50;").firstCorn(0), 1);
        s.says(16, "FIRST CORN, what 0: in how many YEARS, 1: who. -2: not by then;");
        due("200", told(one + "199;").firstCorn(0), -2);
        due("200, who", told(one + "199;").firstCorn(1), -2);
        due("never", told(one + "9999;").firstCorn(0), -2);
        StringBuilder eight = new StringBuilder("house a 9;");
        for (char c = 'a'; c <= 'h'; c++) {
            eight.append("man ").append(c).append(c == 'h' ? " a 9 0 10;" : " a 9 0 0;");
        }
        due("eight folk", told(eight.toString()).firstCorn(0), -2);
        due("eight folk, the last one", told(eight + "law bear 9;").firstCorn(1), 7);
        due("no folk", told("house a 1;").firstCorn(0), -2);
        due("no folk, who", told("house a 1;").firstCorn(1), -2);
        due("a new object", new LastHouse().firstCorn(1), -2);
        s.says(16, "NONE for another what.");
        for (int what : new int[] {-1, 2, LEAST, MOST}) {
            due("firstCorn(" + what + ")", told(one + "0;").firstCorn(what), NONE);
            due("firstCorn(" + what + ") of a new object", new LastHouse().firstCorn(what), NONE);
        }
    }

    /** In how many of ten times nothing is damp ahead of the last year but some, by the document's words. */
    private static int times(int seed, int n, int corns) {
        BigInteger[] last = {BigInteger.valueOf(seed)};
        int all = 0;
        for (int time = 0; time < 10; time++) {
            int had = 0;
            boolean dry = true;
            for (int year = 0; year < n; year++) {
                had += dry ? 1 : 0;
                dry &= number(last) % 100 >= 10;
            }
            all += had >= corns ? 1 : 0;
        }
        return all;
    }

    private static void chance() {
        s.says(37, "In how many of ten times drawn (numbers from a seed 0 .. 2147483647 on, one behind another; n 1 .. 99 YEARS "
                + "from now) one has so many CORNS 0 .. 99 at least then;");
        LastHouse x = told("house a 20;man l a 0 0 0;man m a 20 0 11;damp 10;law corn 0;");
        for (int seed : new int[] {0, 1, 12345, 1 << 30, MOST - 1, MOST}) {
            for (int corns : new int[] {0, 1, 2, 5, 10, 99}) {
                for (int n : new int[] {1, 2, 10, 99}) {
                    due("chance(" + seed + ", " + n + ", 1, " + corns + ")", x.chance(seed, n, 1, corns), times(seed, n, corns));
                }
            }
        }
        LastHouse most = told("house a 0;man m a 99 0 0;");
        due("99 corns in 99 years", most.chance(0, 99, 0, 99), 10);
        due("99 corns in 98 years", most.chance(0, 98, 0, 99), 0);
        due("none in a year", most.chance(0, 1, 0, 0), 10);
        most.go(99);
        due("from now", most.chance(MOST, 1, 0, 99), 10);
        due("damp 100", told("house a 20;man m a 20 0 11;damp 100;law corn 0;").chance(5, 9, 0, 1), 10);
        due("damp 100", told("house a 20;man m a 20 0 11;damp 100;law corn 0;").chance(5, 9, 0, 2), 0);
        s.says(37, "NONE: no such ones.");
        for (int seed : new int[] {-1, LEAST, LEAST + 1}) {
            due("seed " + seed, x.chance(seed, 1, 0, 0), NONE);
        }
        for (int n : new int[] {0, -1, 100, LEAST, MOST}) {
            due("n " + n, x.chance(0, n, 0, 0), NONE);
        }
        for (int man : NEVER) {
            due("man " + man, x.chance(0, 1, man, 0), NONE);
        }
        due("man 2", x.chance(0, 1, 2, 0), NONE);
        for (int corns : new int[] {-1, 100, LEAST, MOST}) {
            due("corns " + corns, x.chance(0, 1, 0, corns), NONE);
        }
    }

    private static void tried() {
        s.says(38, "TRIED (n 0 .. 200);");
        LastHouse x = told("house a 0;house b 0;man m a 99 0 0;man n b 99 0 0;");
        for (int what = 0; what <= 4; what++) {
            due("tried(" + what + ", 0, 0)", x.tried(what, 0, 0), 0);
            due("tried(" + what + ", 0, 1)", x.tried(what, 0, 1), 2);
            due("tried(" + what + ", 0, 200)", x.tried(what, 0, 200), 400);
        }
        due("house 1", x.tried(2, 1, 200), 400);
        due("nothing went by", x.count(4), 0);
        s.says(38, "NONE: no such ones (i 0 of all but 2).");
        for (int what = 0; what <= 4; what++) {
            for (int n : new int[] {-1, 201, LEAST, MOST}) {
                due("tried(" + what + ", 0, " + n + ")", x.tried(what, 0, n), NONE);
            }
            for (int i : NEVER) {
                due("tried(" + what + ", " + i + ", 1)", x.tried(what, i, 1), NONE);
            }
            due("tried(" + what + ", 1, 1)", x.tried(what, 1, 1), what == 2 ? 2 : NONE);
            due("tried(" + what + ", 2, 1)", x.tried(what, 2, 1), NONE);
        }
        for (int what : new int[] {-1, 5, LEAST, MOST}) {
            due("tried(" + what + ", 0, 1)", x.tried(what, 0, 1), NONE);
        }
        due("no houses", new LastHouse().tried(2, 0, 1), NONE);
        due("no folk", new LastHouse().tried(4, 0, 200), 0);
    }

    private static void triedWays() {
        s.says(38, "0 no damp, 1 no DEEDS told (not REFUSED), 2 HOUSE i has its WOOD as told now, no LAYERS (DEEDS go on), 3 no "
                + "WEDDINGS told, 4 E of bear isn't asked, all bear 0 (a PINCH above 0 is a CORN).");
        LastHouse wet = told("house a 20;man m a 20 0 11;damp 100;law corn 0;");
        due("as it goes", wet.ahead(5, 0, 0), 1);
        due("0: damp 100 is none", wet.tried(0, 0, 5), 5);
        LastHouse deed = told("house a 20;man m a 20 0 11;add a 0 1 0;law corn 0;");
        due("1: no deeds", deed.tried(1, 0, 5), 5);
        due("2: deeds go on", deed.tried(2, 0, 5), 0);
        LastHouse laid = told("house a 20;house b 20;man m a 20 0 11;man n b 20 0 11;strip 99;damp 100;law corn 0;");
        laid.go(50);
        laid.lay(0, 0, 5);
        due("as it goes", laid.ahead(1, 0, 0), 0);
        due("2: house 0 alone", laid.tried(2, 0, 1), 1);
        due("2: house 1 alone", laid.tried(2, 1, 1), 1);
        due("2: the wood is told, not now", laid.tried(2, 1, 9), 1);
        due("it is as it was", laid.last(0, 0), 75);
        LastHouse wed = told("house a 40;house b 20;man m a 40 0 0;man n b 20 0 11;wed m n 0;law corn 0;");
        due("as it goes", wed.ahead(3, 1, 1), 0);
        due("3: no weddings", wed.tried(3, 0, 3), 3);
        LastHouse bear = told("house a 20;man m a 20 0 1;man n a 20 0 0;law bear 999;law corn 0;");
        due("4: a pinch of 1 and one of 0", bear.tried(4, 0, 200), 200);
        due("4: not in other ways", bear.tried(0, 0, 200), 0);
        LastHouse error = told("house a 20;man m a 20 0 1;law bear 1/0;law corn 0;");
        due("4: an error of bear isn't asked", error.tried(4, 0, 3), 3);
    }

    private static void keep() {
        s.says(40, "An IMAGE is kept (in place of one ahead): which YEAR it is.");
        LastHouse x = told("house a 1;damp 100;");
        due("year 0", x.keep(), 0);
        x.go(200);
        due("year 200", x.keep(), 200);
        due("twice", x.keep(), 200);
        x.go(5);
        due("back to the later one", x.back(), 200);
        due("last", x.last(0, 0), 201);
        due("of a new object", new LastHouse().keep(), 0);
        LastHouse y = told("house a 1;");
        y.lay(0, 0, 5);
        y.keep();
        due("what can be undone stays", y.count(12), 1);
        due("undo()", y.undo(), 0);
        due("the image is as it was", y.back(), 0);
        due("last", y.last(0, 0), 6);
    }

    private static void back() {
        s.says(41, "All (but what was SEEN) is as in the IMAGE (nothing to undo then): which YEAR it is;");
        LastHouse x = told("house a 10;house b 20;man m a 30 1 3;man n b 5 2 4;wed m n 1;wed m n 1;add a 0 5 1;damp 50;seed 9;");
        x.lay(0, 3, 4);
        x.see(1, 0, 1, true);
        due("keep()", x.keep(), 0);
        int firstWood = 0;
        for (int round = 0; round < 3; round++) {
            due("go(2)", x.go(2), 2);
            if (round == 0) {
                firstWood = x.last(1, 0);
            }
            due("the numbers are as they were", x.last(1, 0), firstWood);
            due("wed", x.count(7), 2);
            due("refused", x.count(8), 1);
            x.lay(0, 5, 9);
            x.lay(1, 0, 7);
            x.move(1, 1);
            due("seen", x.see(1, 0, 1, true), round + 1);
            due("back()", x.back(), 0);
            due("nothing to undo", x.count(12), 0);
            due("undo()", x.undo(), NONE);
            due("layers", x.count(6), 1);
            due("the layer's zone", x.layer(0, 0, 1), 3);
            due("the layer", x.layer(0, 0, 2), 4);
            due("last(0, 3)", x.last(0, 3), 14);
            due("last(1, 0)", x.last(1, 0), 20);
            due("house of n", Tester.man(x, 1, 0), 1);
            due("corns", x.count(5), 0);
            due("bump", Tester.man(x, 0, 3), 3);
            due("wed", x.count(7), 0);
            due("refused", x.count(8), 0);
            due("what was seen stays", x.count(10), round + 2);
        }
        s.says(41, "NONE: there is none.");
        LastHouse none = told("house a 1;");
        none.lay(0, 0, 3);
        due("none", none.back(), NONE);
        due("all stays", none.last(0, 0), 4);
        due("what can be undone stays", none.count(12), 1);
        due("a new object", new LastHouse().back(), NONE);
        none.keep();
        Tester.tell(none, "house b 1;");
        due("a new text has none", none.back(), NONE);
        none.keep();
        due("a faulty text", Tester.tell(none, "house"), NONE);
        due("leaves it", none.back(), 0);
        due("again", none.back(), 0);
    }
}
