/** The boundary cases of the tape, the text, its faults and names: promises 1 to 5, and what the terms say of a text. */
public final class BoundsOfTexts {
    private static final int NONE = LastHouse.NONE;
    private static final int LEAST = Integer.MIN_VALUE;
    private static final int MOST = Integer.MAX_VALUE;
    private static final int NO_INDEX = 1000001;
    private static final String[] LANGUAGE = {"house", "man", "add", "slice", "wed", "strip", "damp", "seed", "law",
        "thick", "bear", "corn", "or", "and", "not", "by", "zone", "much", "pinch", "corns", "layers", "year"};
    private static final String HOUSE = "house a 1;";
    private static final String TWO = "house a 1;man m a 1 1 1;man n a 1 1 1;";
    private static Sentences s;

    public static void main(String[] args) throws Exception {
        s = new Sentences(1, 2, 3, 4, 5);
        newObject();
        bytesOfATape();
        fullTape();
        firstBytes();
        allAnew();
        nothingOfTextsAhead();
        lines();
        allStays();
        tapeStays();
        latestText();
        names();
        textOfLines();
        words();
        blanks();
        numbersOfValues();
        widenedSigns();
        houses();
        folk();
        deeds();
        weddings();
        strips();
        dampAndSeed();
        firstFault();
        faultOne();
        faultOneOfValues();
        faultTwo();
        brackets();
        knots();
        faultThree();
        faultFour();
        faultFive();
        s.end();
    }

    private static void due(String call, long got, long want) {
        s.due(call, got, want);
    }

    private static LastHouse told(String text) {
        return Tester.told(text);
    }

    private static void newObject() {
        s.says(1, "A TEXT without LINES; an empty TAPE.");
        LastHouse x = new LastHouse();
        due("text(1)", x.text(1), -2);
        for (int what = 0; what <= 12; what++) {
            due("count(" + what + ")", x.count(what), 0);
        }
        due("fault(0)", x.fault(0), 0);
        due("fault(1)", x.fault(1), NONE);
        due("named(0, 0)", x.named(0, 0), NONE);
        due("named(1, 0)", x.named(1, 0), NONE);
        due("man(0, 0)", Tester.man(x, 0, 0), NO_INDEX);
        due("last(0, 0)", x.last(0, 0), LEAST);
        due("layer(0, 0, 0)", x.layer(0, 0, 0), LEAST);
        due("far(0, 0)", x.far(0, 0), NONE);
        due("law(0, 0)", x.law(0, 0), Long.MIN_VALUE);
        due("law(1, 0)", x.law(1, 0), Long.MIN_VALUE);
        due("lay(0, 0, 1)", x.lay(0, 0, 1), LEAST);
        due("peel(0)", x.peel(0), NONE);
        s.due("move(0, 0)", x.move(0, 0), false);
        due("rests(0, 1)", x.rests(0, 1), NONE);
        due("see(1, 0, 0, true)", x.see(1, 0, 0, true), NONE);
        s.due("known(0)", x.known(0), true);
        s.due("known(1)", x.known(1), false);
        due("tried(2, 0, 1)", x.tried(2, 0, 1), NONE);
        due("tried(0, 0, 200)", x.tried(0, 0, 200), 0);
        due("keep()", x.keep(), 0);
        due("go(200)", x.go(200), 200);
        due("back()", x.back(), 0);
        due("feed", x.feed(0, 0, 0, 0, 0), 20);
    }

    private static void bytesOfATape() {
        s.says(2, "Twenty bytes come behind the TAPE, four of each number, the highest first: how many it has;");
        // Nineteen blanks and a 1, at each place, in a text of nothing but a number: its place is where that byte is.
        for (int place = 0; place < 20; place++) {
            LastHouse x = new LastHouse();
            int[] row = {0x20202020, 0x20202020, 0x20202020, 0x20202020, 0x20202020};
            row[place / 4] += 0x11 << 24 - 8 * (place % 4);
            due("feed", x.feed(row[0], row[1], row[2], row[3], row[4]), 20);
            due("text(20)", x.text(20), NONE);
            due("the place of the byte", x.fault(1), place);
        }
        // Bytes above 127, and numbers below 0, are bytes as others are.
        for (int place = 0; place < 20; place++) {
            LastHouse x = new LastHouse();
            int[] row = {0x20202020, 0x20202020, 0x20202020, 0x20202020, 0x20202020};
            row[place / 4] |= 0xff << 24 - 8 * (place % 4);
            x.feed(row[0], row[1], row[2], row[3], row[4]);
            due("text(20)", x.text(20), NONE);
            due("fault(0)", x.fault(0), 1);
            due("the place of the byte 255", x.fault(1), place);
        }
        LastHouse y = new LastHouse();
        due("feed", y.feed(LEAST, MOST, -1, 0, 1), 20);
        due("feed", y.feed(MOST, LEAST, 1, 0, -1), 40);
        // damp 3;, over two feeds.
        LastHouse z = new LastHouse();
        z.feed(0x20202020, 0x20202020, 0x20202020, 0x20202020, 0x20206461);
        z.feed(0x6d702033, 0x3b202020, 0x20202020, 0x20202020, 0x20202020);
        due("text(25)", z.text(25), 1);
        due("dry(1, 0)", z.dry(1, 0), 97);
    }

    private static LastHouse full() {
        LastHouse x = new LastHouse();
        for (int k = 1; k < 35; k++) {
            due("feed", x.feed(0x20202020, 0x20202020, 0x20202020, 0x20202020, 0x20202020), 20 * k);
        }
        // A word that can't stand there among the last bytes: dmp.
        due("the 35th feed", x.feed(0x20202020, 0x20202020, 0x20202020, 0x20646d70, 0x2020393b), 700);
        return x;
    }

    private static void fullTape() {
        s.says(2, "NONE, and none come, if it would have more than 700.");
        LastHouse x = full();
        due("the 36th feed", x.feed(1, 2, 3, 4, 5), NONE);
        due("the 37th feed", x.feed(-1, -1, -1, -1, -1), NONE);
        due("text(701)", x.text(701), -2);
        due("text(720)", x.text(720), -2);
        due("still full", x.feed(1, 2, 3, 4, 5), NONE);
        due("text(700)", x.text(700), NONE);
        due("the word that is none", x.fault(1), 693);
        due("empty then", x.feed(1, 2, 3, 4, 5), 20);
        LastHouse y = new LastHouse();
        String long700 = " ".repeat(691) + "damp 100;";
        due("a text of 700 bytes", Tester.tell(y, long700), 1);
        due("dry(1, 0)", y.dry(1, 0), 0);
        due("699 of 700 bytes", Tester.tell(y, long700.substring(0, 699)), NONE);
        due("the place is the length", y.fault(1), 699);
        // None of a refused feed's bytes may come over those that are there.
        LastHouse z = new LastHouse();
        int[] row = Tester.numbers(Tester.bytes(long700));
        for (int i = 0; i < row.length; i += 5) {
            z.feed(row[i], row[i + 1], row[i + 2], row[i + 3], row[i + 4]);
        }
        due("refused", z.feed(0, 0, 0, 0, 0), NONE);
        due("text(700) as it was fed", z.text(700), 1);
    }

    private static void firstBytes() {
        s.says(3, "The TAPE's first n bytes (it is empty then) are the TEXT");
        LastHouse x = new LastHouse();
        int[] row = Tester.numbers(Tester.bytes("damp 3;damp 4;seed 5;"));
        x.feed(row[0], row[1], row[2], row[3], row[4]);
        x.feed(row[5], row[6], row[7], row[8], row[9]);
        due("text(7)", x.text(7), 1);
        due("dry(1, 0)", x.dry(1, 0), 97);
        due("it is empty", x.text(1), -2);
        due("feed", x.feed(row[0], row[1], row[2], row[3], row[4]), 20);
        due("text(0)", x.text(0), 0);
        due("no damp", x.dry(1, 0), 1);
        due("it is empty", x.text(1), -2);
        due("text(0) of an empty tape", x.text(0), 0);
        x.feed(row[0], row[1], row[2], row[3], row[4]);
        due("with a fault", x.text(14), NONE);
        due("it is empty with a fault, too", x.text(1), -2);
        due("feed", x.feed(row[0], row[1], row[2], row[3], row[4]), 20);
        due("text(6)", x.text(6), NONE);
        due("the ';' behind it isn't looked at", x.fault(1), 6);
        cutInside("damp 12;", 6, 1, 6);
        cutInside("damp 123;", 7, 1, 7);
        cutInside("damp 123;", 8, 2, 5);
        cutInside("house abc 1;", 8, 1, 8);
        cutInside("house abcdefg 1;", 12, 1, 12);
        cutInside("house abcdefg 1;", 13, 1, 6);
        cutInside("houses 1;", 5, 1, 5);
    }

    /** A text that ends inside a word or a number: letters and digits behind it are none of it. */
    private static void cutInside(String fed, int n, int kind, int place) {
        LastHouse x = new LastHouse();
        int[] row = Tester.numbers(Tester.bytes(fed));
        x.feed(row[0], row[1], row[2], row[3], row[4]);
        due("text(" + n + ") of " + fed, x.text(n), NONE);
        due("the fault", x.fault(0), kind);
        due("the place", x.fault(1), place);
    }

    private static void allAnew() {
        s.says(3, "(YEAR 0, WOOD as told, no LAYERS, no CORNS, nobody WED, nothing SEEN, all KNOWN, no IMAGE, "
                + "nothing to undo then)");
        String text = "house a 10;house b 20;man m a 30 1 3;man n b 5 2 4;wed m n 0;wed n m 0;damp 100;seed 7;";
        LastHouse x = told(text);
        x.go(3);
        x.lay(0, 0, 5);
        x.move(0, 1);
        x.see(1, 0, 1, true);
        x.see(1, 0, 1, false);
        x.known(1);
        x.keep();
        due("corns ahead", Tester.man(x, 0, 4), 3);
        due("the same text", Tester.tell(x, text), 8);
        due("year", x.count(4), 0);
        due("last(0, 0)", x.last(0, 0), 10);
        due("last(1, 7)", x.last(1, 7), 20);
        due("layers", x.count(6), 0);
        due("corns", x.count(5), 0);
        due("bump", Tester.man(x, 0, 3), 3);
        due("house", Tester.man(x, 0, 0), 0);
        due("house of n", Tester.man(x, 1, 0), 1);
        due("wed", x.count(7), 0);
        due("refused", x.count(8), 0);
        due("seen", x.count(10), 0);
        due("strike(0)", x.strike(0), NONE);
        due("known", x.count(11), 0);
        x.see(1, 0, 1, true);
        due("all known, also those to come", x.count(11), 1);
        due("can be undone", x.count(12), 0);
        due("undo()", x.undo(), NONE);
        due("back()", x.back(), NONE);
        due("back() left the year", x.count(4), 0);
    }

    private static void nothingOfTextsAhead() {
        s.says(3, "are the TEXT");
        String full = "house a 10;house b 20;man m a 30 1 3;man n b 5 2 4;add a 0 1 1;wed m n 0;strip 1;damp 60;seed 7;"
                + "law thick 1+2;law bear 0;law corn 4;";
        String bare = "house c 9;man o c 9 0 11;add c 3 5 0;";
        LastHouse x = told(full);
        for (int round = 0; round < 3; round++) {
            due("full", Tester.tell(x, full), 12);
            due("knots", x.count(3), 5);
            due("full again", Tester.tell(x, full), 12);
            due("bare", Tester.tell(x, bare), 3);
            due("houses", x.count(0), 1);
            due("folk", x.count(1), 1);
            due("deeds", x.count(2), 1);
            due("knots", x.count(3), 0);
            due("dry(1, 0)", x.dry(1, 0), 1);
            for (int what = 0; what < 3; what++) {
                due("law(" + what + ", 0)", x.law(what, 0), Long.MIN_VALUE);
            }
            due("refused ahead", x.ahead(9, 4, 0), 0);
            x.go(1);
            due("thick as told", x.last(0, 3), 14);
            due("bear 10, corn 1", Tester.man(x, 0, 3), 12);
            x.go(4);
            due("no strip", x.count(6), 1);
            due("no damp", x.last(0, 0), 9);
            due("nobody is wed", x.count(7), 0);
            due("a text of one law", Tester.tell(x, "house c 9;man o c 9 0 11;law bear 3;"), 3);
            due("its law", x.law(1, 0), 3);
            due("no deeds", x.count(2), 0);
            due("blanks", Tester.tell(x, " "), 0);
            due("no folk", x.count(1), 0);
        }
        // A seed of a text ahead is none of this one.
        LastHouse seeded = told("house a 0;damp 50;seed 1;");
        Tester.tell(seeded, "house a 0;damp 50;seed 1;");
        Tester.tell(seeded, "house a 0;damp 50;");
        LastHouse fresh = told("house a 0;damp 50;seed 0;");
        for (int year = 0; year < 30; year++) {
            seeded.go(1);
            fresh.go(1);
            due("year " + year, seeded.last(0, 0), fresh.last(0, 0));
        }
        behindFaults();
    }

    /** What a faulty text left half read is nothing to the next one. */
    private static void behindFaults() {
        LastHouse x = new LastHouse();
        for (String bad : new String[] {"law bear ((((((((1+", "law bear not not not", "law bear 1+2*3<4 and 5 or",
            "law bear 1" + "+1".repeat(32), "law bear (((((((((", "house a 1;man m a 1 1 1;damp 1;seed 1;law thick 1;#"}) {
            due("a fault", Tester.tell(x, bad), NONE);
            due("a good one", Tester.tell(x, "house h 20;man m h 23 4 5;damp 3;seed 1;law bear ((((((((1))))))))+2;"), 5);
            due("its law", x.law(1, 0), 3);
            due("no other law", x.law(0, 0), Long.MIN_VALUE);
            due("its knots", x.count(3), 3);
        }
    }

    private static void lines() {
        s.says(3, "how many LINES");
        due("none", new LastHouse().text(0), 0);
        due("blanks alone", Tester.tell(new LastHouse(), " \n "), 0);
        due("one", Tester.tell(new LastHouse(), "strip 0;"), 1);
        String most = "house a 1;house b 1;house c 1;house d 1;house e 1;house f 1;" + "add a 1 1 1;".repeat(14)
                + "man a a 1 1 1;man b a 1 1 1;man c a 1 1 1;man d a 1 1 1;man e a 1 1 1;man f a 1 1 1;man g a 1 1 1;"
                + "man h a 1 1 1;" + "wed a b 1;".repeat(6) + "strip 1;".repeat(4) + "damp 1;seed 1;"
                + "law thick 1;law bear 1;law corn 1;";
        due("as many as may be", Tester.tell(new LastHouse(), most), 6 + 14 + 8 + 6 + 4 + 2 + 3);
    }

    private static void allStays() {
        s.says(3, "NONE with a FAULT, all stays");
        LastHouse x = told("house a 10;house b 20;man m a 30 1 3;man n b 5 2 4;add a 0 1 9;wed m n 0;law bear by+1;"
                + "damp 100;seed 7;");
        x.go(2);
        due("keep()", x.keep(), 2);
        x.lay(0, 0, 5);
        x.move(1, 1);
        x.see(1, 0, 1, true);
        x.see(1, 0, 1, false);
        x.known(1);
        String then = counts(x);
        int last = x.last(0, 0);
        for (String text : new String[] {"house z 1;man z z 1 1 1;law thick 3;damp 3;seed 3;;", "house", "house z 100;",
            "house z 1;house z 1;", "man z z 1 1 1;", "house z 1;man z z 1 1 1;wed z z 1;", "law bear (", "damp 0;damp"}) {
            due("text of " + text, Tester.tell(x, text), NONE);
            s.dueRow("count() of all", counts(x), then);
            due("last(0, 0)", x.last(0, 0), last);
            due("house a", x.named(0, 1 << 25), 0);
            due("house z", x.named(0, 26 << 25), NONE);
            due("law(1, 0)", x.law(1, 0), 1);
            due("law(0, 0)", x.law(0, 0), Long.MIN_VALUE);
            due("dry(1, 0)", x.dry(1, 0), 0);
        }
        due("undo()", x.undo(), 1);
        due("back()", x.back(), 2);
    }

    private static String counts(LastHouse x) {
        StringBuilder row = new StringBuilder();
        for (int what = 0; what <= 12; what++) {
            row.append(x.count(what)).append(' ');
        }
        return row.toString();
    }

    private static void tapeStays() {
        s.says(3, "-2, and the TAPE stays: there are not so many, n is below 0.");
        LastHouse x = new LastHouse();
        for (int n : new int[] {1, 20, 700, 701, MOST, -1, -2, LEAST}) {
            due("text(" + n + ") of an empty tape", x.text(n), -2);
        }
        int[] row = Tester.numbers(Tester.bytes("damp 3;"));
        due("feed", x.feed(row[0], row[1], row[2], row[3], row[4]), 20);
        for (int n : new int[] {21, 40, MOST, -1, LEAST}) {
            due("text(" + n + ") of twenty", x.text(n), -2);
        }
        due("the fault stays", x.fault(0), 0);
        due("text(20)", x.text(20), 1);
        due("dry(1, 0)", x.dry(1, 0), 97);
    }

    private static void latestText() {
        s.says(4, "Of the latest text() that was not -2, what 0: its FAULT (0), 1: its place (NONE without).");
        LastHouse x = new LastHouse();
        due("fault(0) without any", x.fault(0), 0);
        due("fault(1) without any", x.fault(1), NONE);
        x.text(-1);
        due("fault(0) behind -2", x.fault(0), 0);
        due("fault(1) behind -2", x.fault(1), NONE);
        Tester.tell(x, "x");
        due("fault(0)", x.fault(0), 1);
        due("fault(1), a place of 0", x.fault(1), 0);
        x.text(1);
        x.text(-1);
        due("fault(0) behind -2", x.fault(0), 1);
        due("fault(1) behind -2", x.fault(1), 0);
        Tester.tell(x, "damp 101;");
        due("fault(0) of the next", x.fault(0), 2);
        due("fault(1) of the next", x.fault(1), 5);
        x.text(0);
        due("fault(0) of a good one", x.fault(0), 0);
        due("fault(1) of a good one", x.fault(1), NONE);
        s.says(4, "NONE for another what.");
        Tester.tell(x, "damp 101;");
        for (int what : new int[] {-1, 2, 3, LEAST, MOST}) {
            due("fault(" + what + ")", x.fault(what), NONE);
        }
    }

    private static void names() {
        s.says(5, "The number of a HOUSE (what 0), one of the FOLK (1) by its letters, 5 bits each (a is 1; the first one "
                + "highest of six, 0 behind the last one)");
        LastHouse x = told("house a 1;house zzzzzz 1;house ab 1;house b 1;house aaaaaa 1;house aaaaab 1;"
                + "man zzzzzz a 1 1 1;man a a 1 1 1;");
        due("a", x.named(0, 0x2000000), 0);
        due("zzzzzz", x.named(0, 0x35ad6b5a), 1);
        due("ab", x.named(0, 0x2200000), 2);
        due("b", x.named(0, 0x4000000), 3);
        due("aaaaaa", x.named(0, 0x2108421), 4);
        due("aaaaab", x.named(0, 0x2108422), 5);
        due("zzzzzz of the folk", x.named(1, 0x35ad6b5a), 0);
        due("a of the folk", x.named(1, 0x2000000), 1);
        s.says(5, "NONE: there is none such.");
        for (int letters : new int[] {0, 1, 0x20, 0x2000001, 0x2000000 | 1 << 30, 0x2000000 | 1 << 31, 0x35ad6b5b, -1,
            LEAST, MOST, 27 << 25, 31 << 25, 0x2010000}) {
            due("named(0, " + letters + ")", x.named(0, letters), NONE);
            due("named(1, " + letters + ")", x.named(1, letters), NONE);
        }
        due("b of the folk", x.named(1, 0x4000000), NONE);
        for (int what : new int[] {-1, 2, LEAST, MOST}) {
            due("named(" + what + ", a)", x.named(what, 0x2000000), NONE);
        }
        Tester.tell(x, "house b 1;");
        due("a of the text ahead", x.named(0, 0x2000000), NONE);
        due("b", x.named(0, 0x4000000), 0);
        due("one of the folk of the text ahead", x.named(1, 0x2000000), NONE);
        x.text(0);
        due("b of the text ahead", x.named(0, 0x4000000), NONE);
    }

    private static void textOfLines() {
        s.says(3, "A TEXT: { LINE ';' }.");
        s.good("", 0);
        s.good("   \n\n  ", 0);
        s.good("damp 1;", 1);
        s.good(" \n damp \n 1 \n ; \n", 1);
        s.faulty(";", 1, 0);
        s.faulty("damp 1;;", 1, 7);
        s.faulty("damp 1", 1, 6);
        s.faulty("damp 1  \n", 1, 9);
        s.faulty("damp 1;seed 1", 1, 13);
    }

    private static void words() {
        s.says(3, "Words: small letters in a row; W: one of 1 .. 6 letters, none of those of the language; N: digits.");
        s.good("house a 1;", 1);
        s.good("house z 1;", 1);
        s.good("house abcdef 1;", 1);
        s.faulty("house abcdefg 1;", 1, 6);
        s.faulty("house houseab 1;", 1, 6);
        for (String word : LANGUAGE) {
            s.faulty("house " + word + " 1;", 1, 6);
            s.faulty(HOUSE + "man " + word + " a 1 1 1;", 1, 14);
            s.faulty(HOUSE + "add " + word + " 1 1 1;", 1, 14);
            s.faulty(HOUSE + "man m " + word + " 1 1 1;", 1, 16);
            s.faulty(TWO + "wed m " + word + " 1;", 1, 44);
            if (word.length() < 6) {
                s.good("house " + word + "x 1;", 1);
                s.good("house x" + word + " 1;", 1);
            } else {
                s.faulty("house " + word + "x 1;", 1, 6);
            }
        }
        for (char c : new char[] {'`', '{', 'A', 'Z', '@', '[', '_'}) {
            s.faulty("house " + c + " 1;", 1, 6);
        }
        for (char c : new char[] {'/', ':'}) {
            s.faulty("damp " + c + ";", 1, 5);
            s.faulty("damp 1" + c + ";", 1, 6);
        }
        s.good("house a1;", 1);
        s.faulty("house a1 b;", 1, 9);
        s.faulty("damp 1 0;", 1, 7);
    }

    private static void blanks() {
        s.says(3, "Blanks 10, 32.");
        for (char c = 0; c < 256; c++) {
            String text = "damp" + c + "1;";
            if (c == 10 || c == 32 || c >= '0' && c <= '9') {
                s.good(text, 1);
            } else {
                s.faulty(text, 1, c >= 'a' && c <= 'z' ? 0 : 4);
            }
        }
    }

    private static void worth(String value, long want) {
        due("E " + value, told("house h 20;man m h 23 4 5;law bear " + value + ";").law(1, 0), want);
    }

    private static void numbersOfValues() {
        s.says(3, "N of E 0 .. 9999.");
        worth("0", 0);
        worth("9999", 9999);
        worth("0000000000000000000000009999", 9999);
        s.faulty("law bear 10000;", 2, 9);
        s.faulty("law bear 1+10000;", 2, 11);
        s.faulty("law bear 2147483648;", 2, 9);
        s.faulty("law bear 4294967296;", 2, 9);
        s.faulty("law bear 4294967297;", 2, 9);
        s.faulty("law bear 18446744073709551617;", 2, 9);
        s.faulty("law bear " + "9".repeat(600) + ";", 2, 9);
    }

    private static void widenedSigns() {
        s.says(3, "A = (or > behind <) right behind < or > belongs to it.");
        worth("2<=2", 1);
        worth("2>=2", 1);
        worth("2<>2", 0);
        worth("3<>2", 1);
        worth("1<>2", 1);
        worth("2=2", 1);
        s.faulty("law bear 2< =2;", 1, 12);
        s.faulty("law bear 2> =2;", 1, 12);
        s.faulty("law bear 2< >2;", 1, 12);
        s.faulty("law bear 2<\n=2;", 1, 12);
        s.faulty("law bear 2=<2;", 1, 11);
        s.faulty("law bear 2=>2;", 1, 11);
        s.faulty("law bear 2==2;", 1, 11);
        s.faulty("law bear 2><2;", 1, 11);
        s.faulty("law bear 2>>2;", 1, 11);
        s.faulty("law bear 2<<2;", 1, 11);
        s.faulty("law bear 2<==2;", 1, 12);
        s.faulty("law bear 2<>=2;", 1, 12);
        s.faulty("law bear 2<=>2;", 1, 12);
        LastHouse x = new LastHouse();
        int[] row = Tester.numbers(Tester.bytes("law bear 2<=2;"));
        x.feed(row[0], row[1], row[2], row[3], row[4]);
        due("text(11), the = is behind it", x.text(11), NONE);
        due("its place", x.fault(1), 11);
        s.faulty("law bear 2<", 1, 11);
        s.faulty("law bear 2>", 1, 11);
    }

    private static void houses() {
        s.says(3, "HOUSES, at most 6: the WOOD 0 .. 99 in each of the 8 ZONES 0 .. 7.");
        String six = "house a 0;house b 99;house c 1;house d 1;house e 1;house f 1;";
        LastHouse x = told(six);
        due("houses", x.count(0), 6);
        for (int zone = 0; zone < 8; zone++) {
            due("wood of 0", x.last(0, zone), 0);
            due("wood of 99", x.last(1, zone), 99);
        }
        s.faulty("house a 100;", 2, 8);
        s.faulty("house a 4294967296;", 2, 8);
        s.faulty(six + "house g 1;", 2, 61);
    }

    private static void folk() {
        s.says(3, "FOLK (man), at most 8: a HOUSE, a FOOT that is WIDE 0 .. 99 in each ZONE, and in one ZONE 0 .. 7 by a "
                + "BUMP 0 .. 20 more.");
        StringBuilder eight = new StringBuilder("house h 0;");
        for (char c = 'a'; c <= 'h'; c++) {
            eight.append("man ").append(c).append(" h ").append(c == 'h' ? "99 7 20;" : "0 0 0;");
        }
        LastHouse x = told(eight.toString());
        due("folk", x.count(1), 8);
        due("pinch of the least", Tester.man(x, 0, 6), 0);
        due("pinch of the most", Tester.man(x, 7, 6), 8 * 99 + 20);
        s.faulty(eight + "man i h 0 0 0;", 2, eight.length());
        s.good(HOUSE + "man m a 0 0 0;", 2);
        s.good(HOUSE + "man m a 99 7 20;", 2);
        s.faulty(HOUSE + "man m a 100 7 20;", 2, 18);
        s.faulty(HOUSE + "man m a 99 8 20;", 2, 21);
        s.faulty(HOUSE + "man m a 99 7 21;", 2, 23);
    }

    private static void deeds() {
        s.says(3, "add, slice, at most 14 in all (DEEDS, numbered together): on the LAST of a HOUSE in a ZONE 0 .. 7 so much "
                + "1 .. 20 in a YEAR 0 .. 99.");
        s.good(HOUSE + "add a 0 1 0;slice a 7 20 99;", 3);
        for (String word : new String[] {"add", "slice"}) {
            int place = 10 + word.length();
            s.good(HOUSE + word + " a 0 1 0;", 2);
            s.good(HOUSE + word + " a 7 20 99;", 2);
            s.faulty(HOUSE + word + " a 8 1 0;", 2, place + 3);
            s.faulty(HOUSE + word + " a 0 0 0;", 2, place + 5);
            s.faulty(HOUSE + word + " a 0 21 0;", 2, place + 5);
            s.faulty(HOUSE + word + " a 0 1 100;", 2, place + 7);
            String adds = HOUSE + "add a 1 1 1;".repeat(14);
            s.good(adds, 15);
            s.faulty(adds + word + " a 1 1 1;", 2, adds.length());
            String slices = HOUSE + "slice a 1 1 1;".repeat(14);
            s.good(slices, 15);
            s.faulty(slices + word + " a 1 1 1;", 2, slices.length());
        }
        LastHouse x = told(HOUSE + "add a 1 3 0;slice a 2 4 0;add a 3 5 0;law thick by;");
        due("deeds", x.count(2), 3);
        due("law(0, 1) is of the slice", x.law(0, 1), 4);
        due("law(0, 2)", x.law(0, 2), 5);
        LastHouse late = told(HOUSE + "add a 0 1 99;slice a 7 20 99;add a 1 2 0;");
        late.go(1);
        due("year 0", late.last(0, 1), 3);
        late.go(98);
        due("ahead of year 99", late.last(0, 0), 1);
        late.go(1);
        due("year 99", late.last(0, 0), 2);
        due("year 99, the slice", late.last(0, 7), -19);
    }

    private static void weddings() {
        s.says(3, "wed, at most 6: two of the FOLK in a YEAR 0 .. 99.");
        String six = TWO + "wed m n 0;wed n m 99;wed m n 1;wed m n 1;wed m n 1;wed m n 1;";
        s.good(six, 9);
        s.faulty(six + "wed m n 1;", 2, six.length());
        s.faulty(TWO + "wed m n 100;", 2, 46);
    }

    private static void strips() {
        s.says(3, "strip, at most 4: a YEAR 0 .. 99.");
        s.good("strip 0;strip 99;strip 99;strip 1;", 4);
        s.faulty("strip 0;strip 99;strip 99;strip 1;strip 2;", 2, 34);
        s.faulty("strip 100;", 2, 6);
    }

    private static void dampAndSeed() {
        s.says(3, "damp: of a hundred 0 .. 100 (0).");
        due("not told", told(HOUSE).dry(1, 0), 1);
        due("damp 0", told("damp 0;").dry(1, 0), 1);
        due("damp 100", told("damp 100;").dry(1, 0), 0);
        s.faulty("damp 101;", 2, 5);
        s.faulty("damp 4294967296;", 2, 5);
        s.says(3, "seed: 0 .. 99999 (0).");
        s.good("seed 0;", 1);
        s.good("seed 99999;", 1);
        s.faulty("seed 100000;", 2, 5);
        s.faulty("seed 1000000;", 2, 5);
        LastHouse none = told(HOUSE + "damp 50;");
        LastHouse zero = told(HOUSE + "damp 50;seed 0;");
        for (int year = 1; year <= 40; year++) {
            none.go(1);
            zero.go(1);
            due("a seed that isn't told is 0, year " + year, none.last(0, 0), zero.last(0, 0));
        }
    }

    private static void firstFault() {
        s.says(4, "FAULTS, the first along the text (of one place the least), with its place:");
        s.faulty("house a 100;#", 2, 8);
        s.faulty("house # 100;", 1, 6);
        s.faulty("house a 1;house a 100;", 3, 16);
        s.faulty("house a 100;house a 100;", 2, 8);
        s.faulty("man m a 100 8 21;", 4, 6);
        s.faulty("damp 1;damp 101;", 3, 7);
        s.faulty("damp 101;damp 1;", 2, 5);
        s.faulty(TWO + "wed m m 100;", 5, 44);
        s.faulty(TWO + "wed x x 100;", 4, 42);
        String six = "house a 1;house b 1;house c 1;house d 1;house e 1;house f 1;";
        s.faulty(six + "house a 100;", 2, 60);
        s.faulty(six + "house", 2, 60);
        s.faulty(six + "houses", 1, 60);
        // What can't stand there, and would be the 65th knot: 1 is less than 2.
        String full = "law bear 1" + "+1".repeat(31) + "+";
        for (String bad : new String[] {"+", "<=", "and", "or", "not 1"}) {
            s.faulty(full + bad, 1, full.length());
        }
        s.faulty(full + "1", 2, full.length());
        s.faulty(full + "10000", 2, full.length());
        s.faulty(full + "by", 2, full.length());
        String compared = "law corn 1;law bear 1" + "+1".repeat(30) + "<1";
        s.faulty(compared + "<1;", 1, compared.length());
        s.faulty(compared + "+1;", 2, compared.length());
        s.faulty("law bear 1" + "+1".repeat(31) + ";law corn 1 2;", 1, 9 + 63 + 1 + 11);
    }

    private static void faultOne() {
        s.says(4, "1 a TOKEN that is none (a word of more than 6 letters that isn't of the language, too) or can't stand there "
                + "(the length, if more must come).");
        s.faulty("abcdefg", 1, 0);
        s.faulty("house layersx 1;", 1, 6);
        s.faulty("damp 1;# ", 1, 7);
        for (String word : LANGUAGE) {
            boolean begins = "house man add slice wed strip damp seed law".contains(word) && !word.equals("or");
            s.faulty(word, 1, begins ? word.length() : 0);
            s.faulty(word + "   ", 1, begins ? word.length() + 3 : 0);
        }
        cutAnywhere("house a 1;");
        cutAnywhere("strip 3;");
        cutAnywhere("seed 12345;");
        cutAnywhere("law bear not ( by + 1 ) * 2 <= 3 and 4 or 5;");
        cutBehind(HOUSE, "man m a 1 2 3;");
        cutBehind(HOUSE, "slice a 1 2 3;");
        cutBehind(TWO, "wed m n 3;");
        for (String bad : new String[] {";", "x", "(", "+", "house", "1"}) {
            if (!bad.equals(";")) {
                s.faulty("damp 1 " + bad, 1, 7);
            }
            if (!bad.equals("1")) {
                s.faulty("damp " + bad, 1, 5);
            }
        }
        s.faulty("damp -1;", 1, 5);
        s.faulty("damp +1;", 1, 5);
        // A word is left out, and what is behind it would do without.
        s.faulty("law;", 1, 3);
        s.faulty("law 1;", 1, 4);
        s.faulty("house 1;", 1, 6);
        s.faulty("house;", 1, 5);
        s.faulty(HOUSE + "man a 1 1 1;", 1, 16);
        s.faulty(HOUSE + "man m 1 1 1;", 1, 16);
        s.faulty(HOUSE + "add 1 1 1;", 1, 14);
        s.faulty(HOUSE + "slice 1 1 1;", 1, 16);
        s.faulty(TWO + "wed 1;", 1, 42);
        s.faulty(TWO + "wed m 1;", 1, 44);
        s.faulty("strip;", 1, 5);
        s.faulty("seed ;", 1, 5);
        s.faulty(HOUSE + "man m a 1 1;", 1, 21);
        s.faulty("law house 1;", 1, 4);
        s.faulty("law corns 1;", 1, 4);
        s.faulty("law x 1;", 1, 4);
    }

    /** Each beginning of a line that stops at a blank: more must come, so the place is the length. */
    private static void cutAnywhere(String line) {
        cutBehind("", line);
    }

    private static void cutBehind(String ahead, String line) {
        for (int n = 1; n < line.length(); n++) {
            if (line.charAt(n) == ' ' || line.charAt(n) == ';') {
                s.faulty(ahead + line.substring(0, n), 1, ahead.length() + n);
                s.faulty(ahead + line.substring(0, n) + " \n ", 1, ahead.length() + n + 3);
            }
        }
        s.good(ahead + line, ahead.split(";").length - (ahead.isEmpty() ? 1 : 0) + 1);
    }

    private static void faultOneOfValues() {
        s.says(4, "or can't stand there");
        s.faulty("law bear;", 1, 8);
        s.faulty("law bear ;", 1, 9);
        s.faulty("law bear x;", 1, 9);
        s.faulty("law bear ();", 1, 10);
        s.faulty("law bear (1;", 1, 11);
        s.faulty("law bear 1);", 1, 10);
        s.faulty("law bear (1));", 1, 12);
        s.faulty("law bear 1 1;", 1, 11);
        s.faulty("law bear 1 by;", 1, 11);
        s.faulty("law bear 1(1);", 1, 10);
        s.faulty("law bear (1)(1);", 1, 12);
        s.faulty("law bear (1)1;", 1, 12);
        s.faulty("law bear 1 not 1;", 1, 11);
        s.faulty("law bear not;", 1, 12);
        s.faulty("law bear and 1;", 1, 9);
        s.faulty("law bear 1 and or 1;", 1, 15);
        for (String sign : new String[] {"+", "-", "*", "/", "<", "<=", "=", "<>", ">=", ">", " and ", " or "}) {
            int behind = 10 + sign.length();
            s.faulty("law bear 1" + sign + ";", 1, behind);
            s.faulty("law bear" + sign + "1;", 1, sign.startsWith(" ") ? 9 : 8);
            s.faulty("law bear 1" + sign + ")", 1, behind);
            s.faulty("law bear (1" + sign + ")", 1, behind + 1);
            if (sign.startsWith(" ")) {
                s.good("law bear 1" + sign + "not 1;", 1);
            } else {
                s.faulty("law bear 1" + sign + "not 1;", 1, behind);
                s.good("law bear 1" + sign + "(not 1);", 1);
            }
        }
        for (String one : new String[] {"<", "<=", "=", "<>", ">=", ">"}) {
            for (String other : new String[] {"<", "<=", "=", "<>", ">=", ">"}) {
                s.faulty("law bear 1" + one + "2" + other + "3;", 1, 11 + one.length());
                s.faulty("law bear not 1" + one + "2*3" + other + "3;", 1, 17 + one.length());
                s.good("law bear (1" + one + "2)" + other + "3;", 1);
                s.good("law bear 1" + one + "2 and 2" + other + "3;", 1);
                s.good("law bear not 1" + one + "2 or 2" + other + "3;", 1);
            }
        }
    }

    private static void faultTwo() {
        s.says(4, "2 too much (at it): a number beyond what is said, a seventh house and so on, a fifteenth add or slice (at the "
                + "word of the LINE)");
        s.faulty("  damp   101 ;", 2, 9);
        s.faulty("seed\n100000;", 2, 5);
        s.faulty("strip 100", 2, 6);
        String six = "house a 1;house b 1;house c 1;house d 1;house e 1;house f 1;";
        s.faulty(six + "  house #", 2, 62);
        StringBuilder eight = new StringBuilder(HOUSE);
        for (char c = 'a'; c <= 'h'; c++) {
            eight.append("man ").append(c).append(" a 1 1 1;");
        }
        s.faulty(eight + " man a a 1 1 1;", 2, eight.length() + 1);
        String deeds = HOUSE + "add a 1 1 1;slice a 1 1 1;".repeat(7);
        s.good(deeds, 15);
        s.faulty(deeds + " add x 9 0 0;", 2, deeds.length() + 1);
        s.faulty(deeds + "\nslice", 2, deeds.length() + 1);
        String weds = TWO + "wed m n 1;".repeat(6);
        s.faulty(weds + " wed x x x", 2, weds.length() + 1);
        s.faulty("strip 1;".repeat(4) + " strip x", 2, 33);
    }

    private static void brackets() {
        s.says(4, "a ninth '(' open");
        String eight = "(".repeat(8) + "1" + ")".repeat(8);
        s.good("law bear " + eight + ";", 1);
        s.faulty("law bear (" + eight + ");", 2, 17);
        s.faulty("law bear (((((((((", 2, 17);
        s.faulty("law bear ((((((((#", 1, 17);
        s.faulty("law bear ( ( ( ( ( ( ( ( (", 2, 25);
        // Those that are closed aren't open, in this law or in one ahead.
        s.good("law bear " + eight + "+" + eight + ";law corn " + eight + ";", 2);
        s.good("law bear (1)" + "+(1)".repeat(8) + ";", 1);
        String again = "law bear " + "(".repeat(7) + "1)+((1" + ")".repeat(8);
        s.good(again + ";", 1);
        s.faulty(again + "+(((((((((1;", 2, again.length() + 9);
        s.faulty("law bear ((((((((1)+((1;", 2, 21);
        due("brackets are no knots", told("law bear " + eight + ";").count(3), 1);
        due("what is inside", told("house h 1;man m h 1 1 1;law bear " + eight + ";").law(1, 0), 1);
    }

    private static void knots() {
        s.says(4, "a 65th KNOT of all E (N, NAMES, signs, not, and, or: one each)");
        String[] starts = {"7", "by", "zone", "much", "pinch", "corns", "layers", "year", "not 1"};
        String full = "law bear 1" + "+1".repeat(31) + ";law corn ";
        due("63 knots", told("law bear 1" + "+1".repeat(31) + ";").count(3), 63);
        for (String start : starts) {
            s.faulty("law thick 1;" + full + start, 2, 12 + full.length());
            if (!start.equals("not 1")) {
                s.good(full + start + ";", 2);
                due("64 knots with " + start, told(full + start + ";").count(3), 64);
            }
        }
        for (String sign : new String[] {"+", "-", "*", "/", "<", "<=", "=", "<>", ">=", ">", "and", "or"}) {
            s.faulty(full + "1 " + sign, 2, full.length() + 2);
            due("3 knots with " + sign, told("law bear 1 " + sign + " 1;").count(3), 3);
        }
        s.good("law bear " + "not ".repeat(63) + "1;", 1);
        s.faulty("law bear " + "not ".repeat(64) + "1;", 2, 9 + 4 * 64);
        s.faulty("law bear " + "not ".repeat(65) + "1;", 2, 9 + 4 * 64);
        s.faulty("law bear 1" + "+1".repeat(32) + ";", 2, 9 + 64);
        due("none", told(HOUSE).count(3), 0);
        LastHouse x = told(full + "1;");
        Tester.tell(x, full + "1 + 1;");
        due("those of the text that stays", x.count(3), 64);
        Tester.tell(x, "law bear 1;");
        due("those of the next text", x.count(3), 1);
    }

    private static void faultThree() {
        s.says(4, "3 told already: a name of its kind (at W), damp, seed (at the word), a law of its LAW (at LAW).");
        s.faulty("house a 1; house  a 1;", 3, 18);
        s.faulty("house a 1;house b 1;house b 1;", 3, 26);
        s.faulty(HOUSE + "man m a 1 1 1;man  m b 1 1 1;", 3, 29);
        s.good("house a 1;man a a 1 1 1;house b 1;man b a 1 1 1;", 4);
        s.good("house a 1;house aa 1;house aaa 1;", 3);
        s.faulty("damp 0; damp 0;", 3, 8);
        s.faulty("seed 0; seed 0;", 3, 8);
        s.faulty("damp 0;seed 0;damp", 3, 14);
        for (String law : new String[] {"thick", "bear", "corn"}) {
            s.faulty("law " + law + " 1;law  " + law, 3, 4 + law.length() + 3 + 5);
        }
        s.good("law thick 1;law bear 1;law corn 1;", 3);
        LastHouse x = told("house a 1;damp 3;seed 3;law bear 1;");
        due("told in the text ahead", Tester.tell(x, "house a 1;damp 3;seed 3;law bear 1;"), 4);
        Tester.tell(x, "damp 3;seed 3;law bear 1;#");
        due("told in one with a fault", Tester.tell(x, "damp 3;seed 3;law bear 1;"), 3);
    }

    private static void faultFour() {
        s.says(4, "4 a HOUSE, one of the FOLK that isn't told ahead (at W).");
        s.faulty("man m a 1 1 1;house a 1;", 4, 6);
        s.faulty("man m m 1 1 1;", 4, 6);
        s.faulty("add a 1 1 1;", 4, 4);
        s.faulty("slice a 1 1 1;", 4, 6);
        s.faulty(HOUSE + "add aa 1 1 1;", 4, 14);
        s.faulty("wed m n 1;", 4, 4);
        s.faulty(HOUSE + "man m a 1 1 1;wed m a 1;", 4, 30);
        s.faulty(HOUSE + "man m a 1 1 1;wed a m 1;", 4, 28);
        s.faulty(HOUSE + "man m a 1 1 1;wed m n 1;man n a 1 1 1;", 4, 30);
        LastHouse x = told(HOUSE);
        due("told in the text ahead", Tester.tell(x, "add a 1 1 1;"), NONE);
        due("fault(0)", x.fault(0), 4);
    }

    private static void faultFive() {
        s.says(4, "5 one WED to oneself (at the second W).");
        s.faulty(TWO + "wed m m 1;", 5, 44);
        s.faulty(TWO + "wed n  n 1;", 5, 45);
        s.faulty(TWO + "wed m m", 5, 44);
        s.good(TWO + "wed m n 1;wed n m 1;", 5);
        s.faulty(TWO + "wed x x 1;", 4, 42);
    }
}
