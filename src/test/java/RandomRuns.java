import java.util.Random;

/** Runs by chance (always the same ones): the class beside the plain model, every answer compared. */
public final class RandomRuns {
    private static final Tester TESTER = new Tester();
    private static Texts texts;
    private static LastHouse x;
    private static Plain p;

    public static void main(String[] args) {
        int runs = args.length > 1 ? Integer.parseInt(args[1]) : 1500;
        int from = args.length > 2 ? Integer.parseInt(args[2]) : 0;
        for (int run = from; run < from + runs; run++) {
            texts = new Texts(new Random(run));
            x = new LastHouse();
            p = new Plain();
            TESTER.about("run " + run);
            for (int call = 0; call < 120; call++) {
                if (call % 60 == 0) {
                    tell();
                }
                call(below(42));
            }
        }
        for (int run = 0; run < runs * 4; run++) {
            texts = new Texts(new Random(-1 - run));
            x = new LastHouse();
            p = new Plain();
            TESTER.about("text " + run);
            tell();
            all();
        }
        TESTER.end();
    }

    private static int below(int n) {
        return texts.below(n);
    }

    private static void due(String call, long got, long want) {
        TESTER.due(call, got, want);
    }

    private static void tell() {
        String text = texts.any();
        if (below(3) == 0) {
            text = texts.spoiled(text);
        }
        feed(text);
        due("text of " + text, x.text(text.length()), p.text(text.length()));
        due("fault(0) of " + text, x.fault(0), p.fault(0));
        due("fault(1) of " + text, x.fault(1), p.fault(1));
    }

    private static void feed(String text) {
        int[] row = Tester.numbers(Tester.bytes(text));
        for (int i = 0; i < row.length; i += 5) {
            due("feed", x.feed(row[i], row[i + 1], row[i + 2], row[i + 3], row[i + 4]),
                    p.feed(row[i], row[i + 1], row[i + 2], row[i + 3], row[i + 4]));
        }
    }

    /** All that can be looked at. */
    private static void all() {
        for (int what = -1; what <= 13; what++) {
            due("count(" + what + ")", x.count(what), p.count(what));
        }
        for (int h = -1; h < 7; h++) {
            for (int z = -1; z < 9; z++) {
                due("last(" + h + ", " + z + ")", x.last(h, z), p.last(h, z));
            }
            for (int k = -1; k <= 12; k++) {
                due("layer(" + h + ", " + k + ", 1)", x.layer(h, k, 1), p.layer(h, k, 1));
                due("layer(" + h + ", " + k + ", 2)", x.layer(h, k, 2), p.layer(h, k, 2));
            }
        }
        for (int m = -1; m < 9; m++) {
            for (int what = -1; what < 8; what++) {
                due("man(" + m + ", " + what + ")", Tester.man(x, m, what), p.man(m, what));
            }
        }
        for (int i = -1; i < 15; i++) {
            for (int what = -1; what < 4; what++) {
                due("law(" + what + ", " + i + ")", x.law(what, i), p.law(what, i));
            }
        }
    }

    /** Mostly a number that there is, now and then one at the edge. */
    private static int some(int most) {
        return below(12) == 0 ? below(2) == 0 ? -1 : most + 1 : below(most + 1);
    }

    private static int house() {
        return below(20) == 0 ? below(2) == 0 ? -1 : 6 : below(Math.max(1, p.text.woods.size() + below(2)));
    }

    private static int man() {
        return below(20) == 0 ? below(2) == 0 ? -1 : 8 : below(Math.max(1, p.text.folk.size() + below(2)));
    }

    private static void call(int which) {
        if (which < 14) {
            change(which);
        } else if (which < 28) {
            look(which);
        } else {
            foresee(which);
        }
    }

    private static void change(int which) {
        int a = house();
        int b = house();
        int m = man();
        int z = some(7);
        switch (which) {
            case 0, 1, 2 -> {
                int by = below(43) - 21;
                due("lay(" + a + ", " + z + ", " + by + ")", x.lay(a, z, by), p.lay(a, z, by));
            }
            case 3 -> {
                for (int k = below(13); k > 0; k--) {
                    due("lay(" + a + ", " + k % 8 + ", " + k + ")", x.lay(a, k % 8, k), p.lay(a, k % 8, k));
                }
            }
            case 4, 5 -> due("peel(" + a + ")", x.peel(a), p.peel(a));
            case 6 -> due("move(" + m + ", " + a + ")", x.move(m, a) ? 1 : 0, p.move(m, a) ? 1 : 0);
            case 7, 8 -> due("undo()", x.undo(), p.undo());
            case 9 -> due("keep()", x.keep(), p.keep());
            case 10 -> due("back()", x.back(), p.back());
            case 11, 12 -> {
                int n = below(40) == 0 ? below(203) - 1 : below(4);
                due("go(" + n + ")", x.go(n), p.go(n));
                if (below(8) == 0) {
                    all();
                }
            }
            default -> sight(m);
        }
    }

    private static void sight(int m) {
        int k = some(Math.max(0, p.seen.size() - 1));
        switch (below(4)) {
            case 0 -> due("strike(" + k + ")", x.strike(k), p.strike(k));
            case 1 -> {
                int n = below(3) == 0 ? -1 : below(p.seen.size() + 2);
                due("known(" + n + ")", x.known(n) ? 1 : 0, p.known(n) ? 1 : 0);
            }
            default -> {
                int years = below(20) == 0 ? below(62) : 1 + below(12);
                int corns = below(20) == 0 ? below(102) - 1 : below(6);
                boolean atLeast = below(2) == 0;
                due("see(" + years + ", " + m + ", " + corns + ", " + atLeast + ")", x.see(years, m, corns, atLeast),
                        p.see(years, m, corns, atLeast));
            }
        }
        due("bumps(" + m + ")", x.bumps(m), p.bumps(m));
    }

    private static void look(int which) {
        int a = house();
        int b = house();
        int m = man();
        int z = some(7);
        switch (which) {
            case 14 -> due("far(" + m + ", " + a + ")", x.far(m, a), p.far(m, a));
            case 15 -> due("nearest(" + m + ")", x.nearest(m), p.nearest(m));
            case 16 -> due("likeness(" + a + ", " + b + ")", x.likeness(a, b), p.likeness(a, b));
            case 17 -> due("heart(" + z + ")", x.heart(z), p.heart(z));
            case 18 -> {
                int n = below(10) == 0 ? below(2) == 0 ? -1 : 10000 : Math.max(0, p.far(m, p.house(a) ? a : 0) - below(60));
                due("ease(" + m + ", " + n + ")", x.ease(m, n), p.ease(m, n));
            }
            case 19 -> {
                int what = some(7);
                if (p.text.woods.size() <= 4 || p.text.folk.size() <= 5) {
                    due("match(" + what + ")", x.match(what), p.match(what));
                }
            }
            case 20 -> due("join()", x.join(), p.join());
            case 21 -> {
                for (int what = -1; what <= 3; what++) {
                    due("game(" + what + ")", x.game(what), p.game(what));
                }
            }
            case 22 -> {
                due("rests(" + a + ", " + b + ")", x.rests(a, b), p.rests(a, b));
                for (int k = -1; k < 4; k++) {
                    due("rest(" + a + ", " + b + ", " + k + ")", x.rest(a, b, k), p.rest(a, b, k));
                }
            }
            case 23 -> {
                int n = some(6);
                int what = some(1);
                due("dry(" + n + ", " + what + ")", x.dry(n, what), p.dry(n, what));
            }
            case 24 -> due("sum(" + a + ")", x.sum(a), p.sum(a));
            case 25 -> due("settle(" + a + ", " + b + ", " + z + ")", x.settle(a, b, z), p.settle(a, b, z));
            case 26 -> {
                due("knee()", x.knee(), p.knee());
                due("walkers()", x.walkers(), p.walkers());
                due("barest()", x.barest(), p.barest());
            }
            default -> {
                int what = some(12);
                due("count(" + what + ")", x.count(what), p.count(what));
                due("layer(" + a + ", " + z + ", 0)", x.layer(a, z, 0), p.layer(a, z, 0));
                String name = "" + (char) ('a' + below(9));
                due("named(0, " + name + ")", x.named(0, Tester.letters(name)), p.named(0, Tester.letters(name)));
                due("named(1, " + name + ")", x.named(1, Tester.letters(name)), p.named(1, Tester.letters(name)));
            }
        }
    }

    private static void foresee(int which) {
        int m = man();
        int n = below(30) == 0 ? below(204) - 1 : below(14);
        switch (which) {
            case 28, 29, 30, 31 -> {
                int what = some(4);
                int i = below(2) == 0 ? m : house();
                due("ahead(" + n + ", " + what + ", " + i + ")", x.ahead(n, what, i), p.ahead(n, what, i));
            }
            case 32, 33 -> {
                due("firstCorn(0)", x.firstCorn(0), p.firstCorn(0));
                due("firstCorn(1)", x.firstCorn(1), p.firstCorn(1));
            }
            case 34, 35 -> {
                int corns = below(20) == 0 ? below(102) - 1 : below(8);
                int seed = below(20) == 0 ? -1 : below(Integer.MAX_VALUE);
                due("chance(" + seed + ", " + n + ", " + m + ", " + corns + ")", x.chance(seed, n, m, corns),
                        p.chance(seed, n, m, corns));
            }
            case 36, 37, 38 -> {
                int what = some(4);
                int i = what == 2 ? house() : below(20) == 0 ? 1 : 0;
                due("tried(" + what + ", " + i + ", " + n + ")", x.tried(what, i, n), p.tried(what, i, n));
            }
            case 39, 40 -> {
                int years = below(20) == 0 ? below(62) : 1 + below(12);
                int what = some(1);
                due("ask(" + m + ", " + years + ", " + what + ")", x.ask(m, years, what), p.ask(m, years, what));
            }
            default -> sight(m);
        }
    }
}
