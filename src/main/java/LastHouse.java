import java.util.Arrays;
import java.util.NoSuchElementException;

/** Houses, folk and their lasts, told as a text. The document's promises say what each call answers. */
public final class LastHouse {
    public static final int NONE = -1;

    private static final int NOT_ANY = -2;
    private static final int NO_SUCH = Integer.MIN_VALUE;
    private static final long ERROR = Long.MIN_VALUE;
    private static final long MOST_VALUE = 1000000000000L;

    private static final int ZONES = 8;
    private static final int MOST_BYTES = 700;
    private static final int MOST_HOUSES = 6;
    private static final int MOST_FOLK = 8;
    private static final int MOST_DEEDS = 14;
    private static final int MOST_WEDDINGS = 6;
    private static final int MOST_STRIPS = 4;
    private static final int MOST_LAYERS = 12;
    private static final int MOST_KNOTS = 64;
    private static final int MOST_OPEN = 8;
    private static final int MOST_IN_LAW = 9999;
    private static final int MOST_SEEN = 24;
    private static final int MOST_DONE = 20;
    private static final int MOST_BY = 20;
    private static final int MOST_BUMP_TOLD = 20;
    private static final int MOST_BUMP = 60;
    private static final int MOST_CORNS = 999;
    private static final int MOST_CORNS_SEEN = 99;
    private static final int MOST_WOOD = 999;
    private static final int MOST_YEAR_TOLD = 99;
    private static final int MOST_YEARS = 200;
    private static final int MOST_YEARS_SEEN = 60;
    private static final int LATEST_YEAR = 9000;
    private static final int MOST_FAR_ASKED = 9999;

    /** The words of the language; a word's place in this row is its kind as a token. */
    private static final String WORDS =
            "house man add slice wed strip damp seed law thick bear corn or and not by zone much pinch corns layers year ";
    private static final int HOUSE = 0;
    private static final int MAN = 1;
    private static final int ADD = 2;
    private static final int SLICE = 3;
    private static final int WED = 4;
    private static final int STRIP = 5;
    private static final int DAMP = 6;
    private static final int SEED = 7;
    private static final int LAW = 8;
    private static final int THICK = 9;
    private static final int BEAR = 10;
    private static final int CORN = 11;
    private static final int OR = 12;
    private static final int AND = 13;
    private static final int NOT = 14;
    private static final int BY = 15;
    private static final int YEAR = 21;

    /** Tokens that are no words of the language. */
    private static final int OWN_WORD = 22;
    private static final int NUMBER = 23;
    private static final int OPEN = 24;
    private static final int CLOSE = 25;
    private static final int STOP = 26;
    private static final int LESS = 27;
    private static final int LESS_OR_SAME = 28;
    private static final int SAME = 29;
    private static final int UNLIKE = 30;
    private static final int MORE_OR_SAME = 31;
    private static final int MORE = 32;
    private static final int PLUS = 33;
    private static final int MINUS = 34;
    private static final int TIMES = 35;
    private static final int OVER = 36;
    private static final int END = 37;
    private static final int BAD = 38;

    /** How tightly signs bind; an open bracket binds least, so that nothing is taken from below it. */
    private static final int BINDS_OR = 1;
    private static final int BINDS_AND = 2;
    private static final int BINDS_NOT = 3;
    private static final int BINDS_COMPARE = 4;
    private static final int BINDS_SUM = 5;
    private static final int BINDS_PRODUCT = 6;

    private static final int FAULT_TOKEN = 1;
    private static final int FAULT_TOO_MUCH = 2;
    private static final int FAULT_TOLD_ALREADY = 3;
    private static final int FAULT_NOT_TOLD = 4;
    private static final int FAULT_WED_TO_ONESELF = 5;

    /** Ways in which years go by; the first five are numbered as tried() numbers them. */
    private static final int NO_DAMP = 0;
    private static final int NO_DEEDS = 1;
    private static final int BARE_HOUSE = 2;
    private static final int NO_WEDDINGS = 3;
    private static final int BEARS_NOTHING = 4;
    private static final int AS_IT_GOES = 5;
    private static final int BY_NUMBERS = 6;

    private static final int LAID = 0;
    private static final int PEELED = 1;
    private static final int MOVED = 2;

    private final Reader reader = new Reader();
    private Told told = new Told();
    private final State now = new State();
    private final State image = new State();
    private final State trial = new State();
    private boolean imageKept;
    private final Years years = new Years();
    private final Seen seen = new Seen();
    private final Done done = new Done();
    private final Reckoner reckoner = new Reckoner();

    public LastHouse() {
    }

    // ---- the text

    public int feed(int a, int b, int c, int d, int e) {
        Tape tape = reader.tape;
        if (tape.size + 20 > MOST_BYTES) {
            return NONE;
        }
        tape.append(a);
        tape.append(b);
        tape.append(c);
        tape.append(d);
        tape.append(e);
        return tape.size;
    }

    public int text(int n) {
        if (n < 0 || n > reader.tape.size) {
            return NOT_ANY;
        }
        reader.tape.size = 0;
        if (!reader.read(n)) {
            return NONE;
        }
        Told former = told;
        told = reader.told;
        reader.told = former;
        now.begin(told);
        seen.clear();
        done.size = 0;
        imageKept = false;
        return told.lines;
    }

    public int fault(int what) {
        switch (what) {
            case 0:
                return reader.fault;
            case 1:
                return reader.faultPlace;
            default:
                return NONE;
        }
    }

    public int named(int what, int letters) {
        switch (what) {
            case 0:
                return find(told.houseName, told.houses, letters);
            case 1:
                return find(told.manName, told.folk, letters);
            default:
                return NONE;
        }
    }

    private static int find(int[] names, int many, int letters) {
        for (int i = 0; i < many; i++) {
            if (names[i] == letters) {
                return i;
            }
        }
        return NONE;
    }

    // ---- what is now

    public int man(int man, int what) throws IndexOutOfBoundsException, NoSuchElementException {
        if (!isMan(man)) {
            throw new IndexOutOfBoundsException("no such one of the folk");
        }
        switch (what) {
            case 0:
                return now.house[man];
            case 1:
                return told.manWide[man];
            case 2:
                return told.manZone[man];
            case 3:
                return now.bump[man];
            case 4:
                return now.corns[man];
            case 5:
                return now.wed >> man & 1;
            case 6:
                return now.pinchOf(told, man);
            default:
                throw new NoSuchElementException("no such what");
        }
    }

    public int last(int house, int zone) {
        if (!isHouse(house) || !isZone(zone)) {
            return NO_SUCH;
        }
        return now.lastAt(house, zone);
    }

    public int layer(int house, int k, int what) {
        if (!isHouse(house)) {
            return NO_SUCH;
        }
        int many = now.layers[house];
        if (what == 0) {
            return many;
        }
        if (k < 0 || k >= many) {
            return NO_SUCH;
        }
        switch (what) {
            case 1:
                return now.layerZone[house * MOST_LAYERS + k];
            case 2:
                return now.layerBy[house * MOST_LAYERS + k];
            default:
                return NO_SUCH;
        }
    }

    public int far(int man, int house) {
        if (!isMan(man) || !isHouse(house)) {
            return NONE;
        }
        return now.farOf(told, man, house);
    }

    public long law(int what, int i) {
        switch (what) {
            case 0:
                return i < 0 || i >= told.deeds ? ERROR : years.thickOf(told, now, i);
            case 1:
                return !isMan(i) ? ERROR : years.folkLawOf(told, now, i, told.bear);
            case 2:
                return !isMan(i) ? ERROR : years.folkLawOf(told, now, i, told.corn);
            default:
                return ERROR;
        }
    }

    public int sum(int house) {
        return isHouse(house) ? now.sumOf(house) : NO_SUCH;
    }

    public int settle(int one, int other, int zone) {
        if (!areTwoHouses(one, other) || !isZone(zone)) {
            return NO_SUCH;
        }
        return now.halfWay(one, other, zone);
    }

    public int knee() {
        if (told.houses == 0) {
            return NOT_ANY;
        }
        int most = 0;
        for (int house = 1; house < told.houses; house++) {
            if (now.layers[house] > now.layers[most]) {
                most = house;
            }
        }
        return most;
    }

    public int walkers() {
        int bits = 0;
        for (int man = 0; man < told.folk; man++) {
            if (now.pinchOf(told, man) == 0) {
                bits |= 1 << man;
            }
        }
        return bits;
    }

    public int barest() {
        int least = NOT_ANY;
        int leastFoot = 0;
        for (int man = 0; man < told.folk; man++) {
            int foot = told.manWide[man] * ZONES + now.bump[man];
            if (least == NOT_ANY || foot < leastFoot) {
                least = man;
                leastFoot = foot;
            }
        }
        return least;
    }

    public int count(int what) {
        switch (what) {
            case 0:
                return told.houses;
            case 1:
                return told.folk;
            case 2:
                return told.deeds;
            case 3:
                return told.knots;
            case 4:
                return now.year;
            case 5:
                return now.cornsOfAll(told);
            case 6:
                return now.layersOfAll(told);
            case 7:
                return Integer.bitCount(now.wed);
            case 8:
                return now.refused;
            case 9:
                return now.pinchOfAll(told);
            case 10:
                return seen.size;
            case 11:
                return seen.knownNow();
            case 12:
                return done.size;
            default:
                return NONE;
        }
    }

    // ---- done by call

    public int lay(int house, int zone, int by) {
        if (!isHouse(house) || !isZone(zone) || by == 0 || by < -MOST_BY || by > MOST_BY) {
            return NO_SUCH;
        }
        if (!now.putOn(house, zone, by)) {
            return NO_SUCH;
        }
        done.note(LAID, house, zone, by);
        return now.lastAt(house, zone);
    }

    public int peel(int house) {
        if (!isHouse(house) || now.layers[house] < 1) {
            return NONE;
        }
        int top = house * MOST_LAYERS + now.layers[house] - 1;
        done.note(PEELED, house, now.layerZone[top], now.layerBy[top]);
        now.takeOff(house);
        return now.layers[house];
    }

    public boolean move(int man, int house) {
        if (!isMan(man) || !isHouse(house) || now.house[man] == house) {
            return false;
        }
        done.note(MOVED, man, now.house[man], 0);
        now.house[man] = house;
        return true;
    }

    public int undo() {
        if (done.size < 1) {
            return NONE;
        }
        done.size--;
        int k = done.size;
        switch (done.what[k]) {
            case LAID:
                now.takeOff(done.who[k]);
                break;
            case PEELED:
                now.putOn(done.who[k], done.where[k], done.by[k]);
                break;
            default:
                now.house[done.who[k]] = done.where[k];
                break;
        }
        return done.size;
    }

    public int keep() {
        image.copyFrom(now);
        imageKept = true;
        return now.year;
    }

    public int back() {
        if (!imageKept) {
            return NONE;
        }
        now.copyFrom(image);
        done.size = 0;
        return now.year;
    }

    public int go(int n) {
        if (n < 0 || n > MOST_YEARS || now.year + n > LATEST_YEAR) {
            return NONE;
        }
        for (int i = 0; i < n; i++) {
            years.pass(told, now, BY_NUMBERS);
        }
        if (n > 0) {
            done.size = 0;
        }
        return now.year;
    }

    // ---- what comes

    public int ahead(int n, int what, int i) {
        boolean known = what >= 0 && what <= 4 && (what != 1 || isMan(i)) && (what != 2 || isHouse(i));
        if (!known || n < 0 || n > MOST_YEARS) {
            return NO_SUCH;
        }
        trial.copyFrom(now);
        runTrial(n, AS_IT_GOES);
        switch (what) {
            case 0:
                return trial.cornsOfAll(told) - now.cornsOfAll(told);
            case 1:
                return trial.corns[i];
            case 2:
                return trial.sumOf(i);
            case 3:
                return Integer.bitCount(trial.wed);
            default:
                return trial.refused - now.refused;
        }
    }

    private void runTrial(int n, int way) {
        for (int i = 0; i < n; i++) {
            years.pass(told, trial, way);
        }
    }

    public int firstCorn(int what) {
        if (what != 0 && what != 1) {
            return NONE;
        }
        trial.copyFrom(now);
        for (int year = 1; year < MOST_YEARS; year++) {
            years.pass(told, trial, AS_IT_GOES);
            int who = firstWithMoreCorns();
            if (who != NONE) {
                return what == 0 ? year : who;
            }
        }
        return NOT_ANY;
    }

    private int firstWithMoreCorns() {
        for (int man = 0; man < told.folk; man++) {
            if (trial.corns[man] > now.corns[man]) {
                return man;
            }
        }
        return NONE;
    }

    public int tried(int what, int i, int n) {
        if (what < NO_DAMP || what > BEARS_NOTHING || n < 0 || n > MOST_YEARS) {
            return NONE;
        }
        if (what == BARE_HOUSE ? !isHouse(i) : i != 0) {
            return NONE;
        }
        trial.copyFrom(now);
        if (what == BARE_HOUSE) {
            trial.bare(told, i);
        }
        runTrial(n, what);
        return trial.cornsOfAll(told) - now.cornsOfAll(told);
    }

    public int chance(int seed, int n, int man, int corns) {
        if (seed < 0 || n < 1 || n > 99 || !isMan(man) || corns < 0 || corns > MOST_CORNS_SEEN) {
            return NONE;
        }
        int number = seed;
        int times = 0;
        for (int draw = 0; draw < 10; draw++) {
            trial.copyFrom(now);
            trial.number = number;
            runTrial(n, BY_NUMBERS);
            number = trial.number;
            if (trial.corns[man] >= corns) {
                times++;
            }
        }
        return times;
    }

    public long dry(int n, int what) {
        if (n < 0 || n > 6 || what < 0 || what > 1) {
            return NONE;
        }
        long above = 100 - told.damp;
        long below = 100;
        long shared = greatestShared(above, below);
        long base = (what == 0 ? above : below) / shared;
        long power = 1;
        for (int i = 0; i < n; i++) {
            power *= base;
        }
        return power;
    }

    /** Of numbers of at most three digits, so a hundred steps are far above what it takes; never 0. */
    private static long greatestShared(long a, long b) {
        long one = a;
        long other = b;
        for (int step = 0; step < 100 && other != 0; step++) {
            long left = one % other;
            one = other;
            other = left;
        }
        return one < 1 ? 1 : one;
    }

    // ---- how far, how like

    public int nearest(int man) {
        if (!isMan(man)) {
            return NONE;
        }
        int best = NOT_ANY;
        int bestFar = 0;
        for (int house = 0; house < told.houses; house++) {
            int far = now.farOf(told, man, house);
            if (best == NOT_ANY || far < bestFar) {
                best = house;
                bestFar = far;
            }
        }
        return best;
    }

    public int likeness(int one, int other) {
        return areTwoHouses(one, other) ? now.differ(one, other) : NONE;
    }

    public int heart(int zone) {
        if (!isZone(zone) || told.houses == 0) {
            return NO_SUCH;
        }
        int least = now.lastAt(0, zone);
        for (int house = 1; house < told.houses; house++) {
            least = Math.min(least, now.lastAt(house, zone));
        }
        return least;
    }

    public int ease(int man, int n) {
        if (!isMan(man) || n < 0 || n > MOST_FAR_ASKED) {
            return NONE;
        }
        return reckoner.fewestOff(told, now, man, n);
    }

    public int match(int what) {
        if (what < 0 || what > 7) {
            return NONE;
        }
        if (what == 6) {
            return Math.min(told.houses, told.folk);
        }
        reckoner.pair(told, now);
        return what == 7 ? reckoner.pairedFar : reckoner.paired[what];
    }

    public int join() {
        return reckoner.leastJoining(told, now);
    }

    public int game(int what) {
        if (what < 0 || what > 2) {
            return NONE;
        }
        int move = reckoner.winningMove(told, now);
        if (what == 0) {
            return move == NONE ? 1 : 0;
        }
        if (move == NONE) {
            return NOT_ANY;
        }
        return what == 1 ? move / 4 : move % 4;
    }

    public int rests(int one, int other) {
        if (!areTwoHouses(one, other)) {
            return NONE;
        }
        int many = 0;
        for (int both = 0; both < 4; both++) {
            if (reckoner.isRest(now, one, other, both / 2, both % 2)) {
                many++;
            }
        }
        return many;
    }

    public int rest(int one, int other, int k) {
        if (!areTwoHouses(one, other) || k < 0) {
            return NONE;
        }
        int many = 0;
        for (int both = 0; both < 4; both++) {
            if (reckoner.isRest(now, one, other, both / 2, both % 2)) {
                if (many == k) {
                    return 10 * (both / 2) + both % 2;
                }
                many++;
            }
        }
        return NOT_ANY;
    }

    // ---- what was seen

    public int see(int years, int man, int corns, boolean atLeast) {
        if (years < 1 || years > MOST_YEARS_SEEN || !isMan(man) || corns < 0 || corns > MOST_CORNS_SEEN) {
            return NONE;
        }
        return seen.noteSight(years, man, corns, atLeast);
    }

    public int strike(int seen) {
        if (seen < 0 || seen >= this.seen.size) {
            return NONE;
        }
        return this.seen.noteStrike(seen);
    }

    public boolean known(int n) {
        if (n < NONE || n > seen.size) {
            return false;
        }
        seen.knownBy = n;
        return true;
    }

    public int bumps(int man) {
        return isMan(man) ? possibleBumps(man) : NONE;
    }

    private int possibleBumps(int man) {
        seen.sift();
        int bits = 0;
        for (int bump = 0; bump <= MOST_BUMP_TOLD; bump++) {
            if (fitsWhatIsKnown(man, bump)) {
                bits |= 1 << bump;
            }
        }
        return bits;
    }

    private boolean fitsWhatIsKnown(int man, int bump) {
        trial.begin(told);
        trial.bump[man] = bump;
        int end = seen.latestYear();
        for (int year = 1; year <= end; year++) {
            years.pass(told, trial, AS_IT_GOES);
            if (!seen.holdsIn(year, trial)) {
                return false;
            }
        }
        return true;
    }

    public int ask(int man, int n, int what) {
        if (!isMan(man) || n < 1 || n > MOST_YEARS_SEEN || what < 0 || what > 1) {
            return NONE;
        }
        int[] withCorns = reckoner.withCorns;
        int all = countByCorns(man, n, possibleBumps(man));
        int best = 1;
        int bestLeft = all;
        int fewer = withCorns[0];
        for (int corns = 1; corns <= MOST_YEARS_SEEN; corns++) {
            int left = Math.max(fewer, all - fewer);
            if (corns == 1 || left < bestLeft) {
                best = corns;
                bestLeft = left;
            }
            fewer += withCorns[corns];
        }
        return what == 0 ? best : bestLeft;
    }

    /** For each number of corns, by how many of these bumps one has just so many behind n years: how many in all. */
    private int countByCorns(int man, int n, int bits) {
        int[] withCorns = reckoner.withCorns;
        Arrays.fill(withCorns, 0);
        int all = 0;
        for (int bump = 0; bump <= MOST_BUMP_TOLD; bump++) {
            if ((bits >> bump & 1) == 1) {
                trial.begin(told);
                trial.bump[man] = bump;
                runTrial(n, AS_IT_GOES);
                withCorns[Math.min(trial.corns[man], MOST_YEARS_SEEN)]++;
                all++;
            }
        }
        return all;
    }

    // ---- what there is

    private boolean isHouse(int house) {
        return house >= 0 && house < told.houses;
    }

    private boolean isMan(int man) {
        return man >= 0 && man < told.folk;
    }

    private static boolean isZone(int zone) {
        return zone >= 0 && zone < ZONES;
    }

    private boolean areTwoHouses(int one, int other) {
        return isHouse(one) && isHouse(other) && one != other;
    }

    /** What a text tells: nothing in it changes when years go by. */
    private static final class Told {
        int lines;
        int houses;
        final int[] houseName = new int[MOST_HOUSES];
        final int[] houseWood = new int[MOST_HOUSES];
        int folk;
        final int[] manName = new int[MOST_FOLK];
        final int[] manHouse = new int[MOST_FOLK];
        final int[] manWide = new int[MOST_FOLK];
        final int[] manZone = new int[MOST_FOLK];
        final int[] manBump = new int[MOST_FOLK];
        int deeds;
        final Deed[] deed = new Deed[MOST_DEEDS];
        int weddings;
        final Wedding[] wedding = new Wedding[MOST_WEDDINGS];
        int strips;
        final int[] stripYear = new int[MOST_STRIPS];
        int damp;
        int seed;
        int knots;
        final Law thick = new Law();
        final Law bear = new Law();
        final Law corn = new Law();

        Told() {
            for (int i = 0; i < MOST_DEEDS; i++) {
                deed[i] = new Deed();
            }
            for (int i = 0; i < MOST_WEDDINGS; i++) {
                wedding[i] = new Wedding();
            }
        }

        void clear() {
            lines = 0;
            houses = 0;
            folk = 0;
            deeds = 0;
            weddings = 0;
            strips = 0;
            damp = 0;
            seed = 0;
            knots = 0;
            thick.clear();
            bear.clear();
            corn.clear();
        }

        boolean stripsIn(int year) {
            for (int i = 0; i < strips; i++) {
                if (stripYear[i] == year) {
                    return true;
                }
            }
            return false;
        }

        int footAt(int man, int zone, int bump) {
            return zone == manZone[man] ? manWide[man] + bump : manWide[man];
        }
    }

    private static final class Deed {
        int house;
        int zone;
        int by;
        int year;
        boolean slice;
    }

    private static final class Wedding {
        int one;
        int other;
        int year;
    }

    /** One E, its knots in the order in which they are worked out. */
    private static final class Law {
        boolean isTold;
        int size;
        final int[] kind = new int[MOST_KNOTS];
        final int[] value = new int[MOST_KNOTS];

        void clear() {
            isTold = false;
            size = 0;
        }

        void append(int newKind, int newValue) {
            if (size < MOST_KNOTS) {
                kind[size] = newKind;
                value[size] = newValue;
                size++;
            }
        }

        /** The value of E by the names' values; ERROR also without a law. */
        long worth(int[] names, long[] stack) {
            int top = 0;
            for (int i = 0; i < size && top < stack.length; i++) {
                int k = kind[i];
                if (k == NUMBER) {
                    stack[top] = value[i];
                    top++;
                } else if (k >= BY && k <= YEAR) {
                    stack[top] = names[k - BY];
                    top++;
                } else if (k == NOT) {
                    if (top < 1) {
                        return ERROR;
                    }
                    stack[top - 1] = stack[top - 1] == 0 ? 1 : 0;
                } else {
                    if (top < 2) {
                        return ERROR;
                    }
                    top--;
                    stack[top - 1] = k < PLUS ? compare(k, stack[top - 1], stack[top]) : reckon(k, stack[top - 1], stack[top]);
                    if (stack[top - 1] == ERROR) {
                        return ERROR;
                    }
                }
            }
            return top == 1 ? stack[0] : ERROR;
        }

        private static long compare(int sign, long a, long b) {
            boolean so;
            switch (sign) {
                case OR:
                    so = a != 0 || b != 0;
                    break;
                case AND:
                    so = a != 0 && b != 0;
                    break;
                case LESS:
                    so = a < b;
                    break;
                case LESS_OR_SAME:
                    so = a <= b;
                    break;
                case SAME:
                    so = a == b;
                    break;
                case UNLIKE:
                    so = a != b;
                    break;
                case MORE_OR_SAME:
                    so = a >= b;
                    break;
                default:
                    so = a > b;
                    break;
            }
            return so ? 1 : 0;
        }

        private static long reckon(int sign, long a, long b) {
            long result;
            switch (sign) {
                case PLUS:
                    result = a + b;
                    break;
                case MINUS:
                    result = a - b;
                    break;
                case TIMES:
                    // A quotient tells it ahead, for the product itself may not fit into a long.
                    if (a != 0 && (b < 0 ? -b : b) > MOST_VALUE / (a < 0 ? -a : a)) {
                        return ERROR;
                    }
                    result = a * b;
                    break;
                default:
                    if (b == 0) {
                        return ERROR;
                    }
                    result = a / b;
                    break;
            }
            return result > MOST_VALUE || result < -MOST_VALUE ? ERROR : result;
        }
    }

    /** The bytes that were fed, cut into tokens, one at a time. */
    private static final class Tape {
        int size;
        private final byte[] bytes = new byte[MOST_BYTES];
        private int length;
        private int next;
        int kind = END;
        int place;
        int value;

        void append(int number) {
            for (int shift = 24; shift >= 0 && size < MOST_BYTES; shift -= 8) {
                bytes[size] = (byte) (number >> shift);
                size++;
            }
        }

        void start(int newLength) {
            length = Math.min(newLength, MOST_BYTES);
            next = 0;
            step();
        }

        void step() {
            while (next < length && (bytes[next] == 10 || bytes[next] == 32)) {
                next++;
            }
            place = next;
            value = 0;
            if (next >= length) {
                kind = END;
            } else if (isLetter(bytes[next])) {
                takeWord();
            } else if (isDigit(bytes[next])) {
                takeNumber();
            } else {
                kind = sign(bytes[next]);
                next++;
                widenSign();
            }
        }

        private static boolean isLetter(int c) {
            return c >= 'a' && c <= 'z';
        }

        private static boolean isDigit(int c) {
            return c >= '0' && c <= '9';
        }

        private void takeWord() {
            int room = 30;
            while (next < length && isLetter(bytes[next])) {
                room -= 5;
                if (room >= 0) {
                    value |= bytes[next] - 'a' + 1 << room;
                }
                next++;
            }
            kind = room < 0 ? BAD : wordKind(value);
        }

        private static int wordKind(int letters) {
            int word = 0;
            int packed = 0;
            int room = 30;
            for (int i = 0; i < WORDS.length(); i++) {
                int c = WORDS.charAt(i);
                if (c != ' ') {
                    room -= 5;
                    packed |= c - 'a' + 1 << room;
                } else if (packed == letters) {
                    return word;
                } else {
                    word++;
                    packed = 0;
                    room = 30;
                }
            }
            return OWN_WORD;
        }

        /** Stops growing far above what any number may be, so that long ones don't wrap around. */
        private void takeNumber() {
            while (next < length && isDigit(bytes[next])) {
                value = Math.min(value * 10 + bytes[next] - '0', 1000000);
                next++;
            }
            kind = NUMBER;
        }

        private static int sign(int c) {
            switch (c) {
                case ';':
                    return STOP;
                case '(':
                    return OPEN;
                case ')':
                    return CLOSE;
                case '<':
                    return LESS;
                case '=':
                    return SAME;
                case '>':
                    return MORE;
                case '+':
                    return PLUS;
                case '-':
                    return MINUS;
                case '*':
                    return TIMES;
                case '/':
                    return OVER;
                default:
                    return BAD;
            }
        }

        private void widenSign() {
            if (next >= length || kind != LESS && kind != MORE) {
                return;
            }
            if (bytes[next] == '=') {
                kind = kind == LESS ? LESS_OR_SAME : MORE_OR_SAME;
                next++;
            } else if (bytes[next] == '>' && kind == LESS) {
                kind = UNLIKE;
                next++;
            }
        }
    }

    /** Reads a text. Each fault is one of the token that is looked at, so the first one met is the first along the text. */
    private static final class Reader {
        final Tape tape = new Tape();
        /** What is read into; the object's own one stays as it is, if there is a fault. */
        Told told = new Told();
        private boolean dampTold;
        private boolean seedTold;
        private final int[] waiting = new int[MOST_KNOTS + MOST_OPEN];
        private int waits;
        private int open;
        int fault;
        int faultPlace = NONE;

        boolean read(int length) {
            told.clear();
            dampTold = false;
            seedTold = false;
            fault = 0;
            faultPlace = NONE;
            tape.start(length);
            for (int i = 0; i <= MOST_BYTES && tape.kind != END && fault == 0; i++) {
                switch (tape.kind) {
                    case HOUSE:
                        readHouse();
                        break;
                    case MAN:
                        readMan();
                        break;
                    case ADD:
                    case SLICE:
                        readDeed();
                        break;
                    case WED:
                        readWedding();
                        break;
                    case STRIP:
                        readStrip();
                        break;
                    case DAMP:
                        readDamp();
                        break;
                    case SEED:
                        readSeed();
                        break;
                    case LAW:
                        readLaw();
                        break;
                    default:
                        fail(FAULT_TOKEN);
                        break;
                }
                endLine();
            }
            return fault == 0;
        }

        private void endLine() {
            if (fault == 0 && tape.kind != STOP) {
                fail(FAULT_TOKEN);
            }
            if (fault == 0) {
                tape.step();
                told.lines++;
            }
        }

        private void fail(int kind) {
            fault = kind;
            faultPlace = tape.place;
        }

        private void readHouse() {
            int k = told.houses;
            if (k >= MOST_HOUSES) {
                fail(FAULT_TOO_MUCH);
                return;
            }
            tape.step();
            if (!isNewName(told.houseName, k)) {
                return;
            }
            told.houseName[k] = tape.value;
            tape.step();
            told.houseWood[k] = takeNumber(0, 99);
            told.houses++;
        }

        private void readMan() {
            int k = told.folk;
            if (k >= MOST_FOLK) {
                fail(FAULT_TOO_MUCH);
                return;
            }
            tape.step();
            if (!isNewName(told.manName, k)) {
                return;
            }
            told.manName[k] = tape.value;
            tape.step();
            told.manHouse[k] = takeToldName(told.houseName, told.houses);
            told.manWide[k] = takeNumber(0, 99);
            told.manZone[k] = takeNumber(0, ZONES - 1);
            told.manBump[k] = takeNumber(0, MOST_BUMP_TOLD);
            told.folk++;
        }

        private void readDeed() {
            if (told.deeds >= MOST_DEEDS) {
                fail(FAULT_TOO_MUCH);
                return;
            }
            Deed deed = told.deed[told.deeds];
            deed.slice = tape.kind == SLICE;
            tape.step();
            deed.house = takeToldName(told.houseName, told.houses);
            deed.zone = takeNumber(0, ZONES - 1);
            deed.by = takeNumber(1, MOST_BY);
            deed.year = takeNumber(0, MOST_YEAR_TOLD);
            told.deeds++;
        }

        private void readWedding() {
            if (told.weddings >= MOST_WEDDINGS) {
                fail(FAULT_TOO_MUCH);
                return;
            }
            Wedding wedding = told.wedding[told.weddings];
            tape.step();
            int letters = tape.value;
            wedding.one = takeToldName(told.manName, told.folk);
            if (fault == 0 && tape.kind == OWN_WORD && tape.value == letters) {
                fail(FAULT_WED_TO_ONESELF);
                return;
            }
            wedding.other = takeToldName(told.manName, told.folk);
            wedding.year = takeNumber(0, MOST_YEAR_TOLD);
            told.weddings++;
        }

        private void readStrip() {
            if (told.strips >= MOST_STRIPS) {
                fail(FAULT_TOO_MUCH);
                return;
            }
            tape.step();
            told.stripYear[told.strips] = takeNumber(0, MOST_YEAR_TOLD);
            told.strips++;
        }

        private void readDamp() {
            if (dampTold) {
                fail(FAULT_TOLD_ALREADY);
                return;
            }
            dampTold = true;
            tape.step();
            told.damp = takeNumber(0, 100);
        }

        private void readSeed() {
            if (seedTold) {
                fail(FAULT_TOLD_ALREADY);
                return;
            }
            seedTold = true;
            tape.step();
            told.seed = takeNumber(0, 99999);
        }

        private boolean isNewName(int[] names, int many) {
            if (tape.kind != OWN_WORD) {
                fail(FAULT_TOKEN);
            } else if (find(names, many, tape.value) != NONE) {
                fail(FAULT_TOLD_ALREADY);
            }
            return fault == 0;
        }

        /** The number of a name that was told ahead; with a fault, also one met earlier in the line, 0 that is not used. */
        private int takeToldName(int[] names, int many) {
            if (fault != 0) {
                return 0;
            }
            int k = find(names, many, tape.value);
            if (tape.kind != OWN_WORD) {
                fail(FAULT_TOKEN);
            } else if (k == NONE) {
                fail(FAULT_NOT_TOLD);
            } else {
                tape.step();
                return k;
            }
            return 0;
        }

        /** A number from least to most; with a fault, also one met earlier in the line, 0 that is not used. */
        private int takeNumber(int least, int most) {
            if (fault != 0) {
                return 0;
            }
            int value = tape.value;
            if (tape.kind != NUMBER) {
                fail(FAULT_TOKEN);
            } else if (value < least || value > most) {
                fail(FAULT_TOO_MUCH);
            } else {
                tape.step();
                return value;
            }
            return 0;
        }

        private void readLaw() {
            tape.step();
            int kind = tape.kind;
            if (kind != THICK && kind != BEAR && kind != CORN) {
                fail(FAULT_TOKEN);
                return;
            }
            Law law = kind == THICK ? told.thick : kind == BEAR ? told.bear : told.corn;
            if (law.isTold) {
                fail(FAULT_TOLD_ALREADY);
                return;
            }
            law.isTold = true;
            tape.step();
            readValue(law);
        }

        /** An E, up to the first token that can't go on with it; by a stack of signs that wait for what is behind them. */
        private void readValue(Law law) {
            waits = 0;
            open = 0;
            boolean partIsDue = true;
            for (int i = 0; i <= MOST_BYTES && fault == 0; i++) {
                int kind = tape.kind;
                if (partIsDue) {
                    takeStart(law, kind);
                    partIsDue = kind == NOT || kind == OPEN;
                } else if (binding(kind) > 0 && kind != NOT) {
                    takeSign(law, kind);
                    partIsDue = true;
                } else if (kind == CLOSE && open > 0) {
                    takeClose(law);
                } else {
                    release(law, BINDS_OR);
                    if (open > 0) {
                        fail(FAULT_TOKEN);
                    }
                    return;
                }
                if (fault == 0) {
                    tape.step();
                }
            }
        }

        private void takeStart(Law law, int kind) {
            if (kind == OPEN) {
                open++;
                await(OPEN, open <= MOST_OPEN);
            } else if (kind == NOT) {
                if (waits > 0 && binding(waiting[waits - 1]) > BINDS_NOT) {
                    fail(FAULT_TOKEN);
                    return;
                }
                told.knots++;
                await(NOT, told.knots <= MOST_KNOTS);
            } else if (kind == NUMBER || kind >= BY && kind <= YEAR) {
                told.knots++;
                if (told.knots > MOST_KNOTS || kind == NUMBER && tape.value > MOST_IN_LAW) {
                    fail(FAULT_TOO_MUCH);
                    return;
                }
                law.append(kind, tape.value);
            } else {
                fail(FAULT_TOKEN);
            }
        }

        private void takeSign(Law law, int kind) {
            int binds = binding(kind);
            release(law, binds == BINDS_COMPARE ? BINDS_SUM : binds);
            if (binds == BINDS_COMPARE && waits > 0 && binding(waiting[waits - 1]) == BINDS_COMPARE) {
                fail(FAULT_TOKEN);
                return;
            }
            told.knots++;
            await(kind, told.knots <= MOST_KNOTS);
        }

        private void takeClose(Law law) {
            release(law, BINDS_OR);
            if (waits > 0) {
                waits--;
            }
            open--;
        }

        private void await(int kind, boolean allowed) {
            if (!allowed || waits >= waiting.length) {
                fail(FAULT_TOO_MUCH);
                return;
            }
            waiting[waits] = kind;
            waits++;
        }

        /** Signs that wait on top and bind at least so tightly have all that belongs to them. */
        private void release(Law law, int binds) {
            while (waits > 0 && binding(waiting[waits - 1]) >= binds) {
                waits--;
                law.append(waiting[waits], 0);
            }
        }

        private static int binding(int kind) {
            switch (kind) {
                case OR:
                    return BINDS_OR;
                case AND:
                    return BINDS_AND;
                case NOT:
                    return BINDS_NOT;
                case PLUS:
                case MINUS:
                    return BINDS_SUM;
                case TIMES:
                case OVER:
                    return BINDS_PRODUCT;
                default:
                    return kind >= LESS && kind <= MORE ? BINDS_COMPARE : 0;
            }
        }
    }

    /** All that changes when years go by. */
    private static final class State {
        int year;
        int refused;
        int number;
        /** Who is wed, by bits. */
        int wed;
        final int[] wood = new int[MOST_HOUSES * ZONES];
        /** All layers of a house in a zone, in sum. */
        final int[] laid = new int[MOST_HOUSES * ZONES];
        final int[] layers = new int[MOST_HOUSES];
        final int[] layerZone = new int[MOST_HOUSES * MOST_LAYERS];
        final int[] layerBy = new int[MOST_HOUSES * MOST_LAYERS];
        final int[] house = new int[MOST_FOLK];
        final int[] bump = new int[MOST_FOLK];
        final int[] corns = new int[MOST_FOLK];

        void begin(Told told) {
            year = 0;
            refused = 0;
            number = told.seed;
            wed = 0;
            bareAll(told);
            for (int man = 0; man < told.folk; man++) {
                house[man] = told.manHouse[man];
                bump[man] = told.manBump[man];
                corns[man] = 0;
            }
        }

        void copyFrom(State other) {
            year = other.year;
            refused = other.refused;
            number = other.number;
            wed = other.wed;
            System.arraycopy(other.wood, 0, wood, 0, wood.length);
            System.arraycopy(other.laid, 0, laid, 0, laid.length);
            System.arraycopy(other.layers, 0, layers, 0, layers.length);
            System.arraycopy(other.layerZone, 0, layerZone, 0, layerZone.length);
            System.arraycopy(other.layerBy, 0, layerBy, 0, layerBy.length);
            System.arraycopy(other.house, 0, house, 0, house.length);
            System.arraycopy(other.bump, 0, bump, 0, bump.length);
            System.arraycopy(other.corns, 0, corns, 0, corns.length);
        }

        void bareAll(Told told) {
            for (int h = 0; h < told.houses; h++) {
                bare(told, h);
            }
        }

        void bare(Told told, int h) {
            for (int zone = 0; zone < ZONES; zone++) {
                wood[h * ZONES + zone] = told.houseWood[h];
            }
            dropLayers(h);
        }

        private void dropLayers(int h) {
            layers[h] = 0;
            for (int zone = 0; zone < ZONES; zone++) {
                laid[h * ZONES + zone] = 0;
            }
        }

        boolean putOn(int h, int zone, int by) {
            if (layers[h] >= MOST_LAYERS) {
                return false;
            }
            int top = h * MOST_LAYERS + layers[h];
            layerZone[top] = zone;
            layerBy[top] = by;
            laid[h * ZONES + zone] += by;
            layers[h]++;
            return true;
        }

        void takeOff(int h) {
            if (layers[h] < 1) {
                return;
            }
            layers[h]--;
            int top = h * MOST_LAYERS + layers[h];
            laid[h * ZONES + layerZone[top]] -= layerBy[top];
        }

        void swell(Told told) {
            for (int i = 0; i < told.houses * ZONES; i++) {
                if (wood[i] < MOST_WOOD) {
                    wood[i]++;
                }
            }
        }

        /** Two marry: the second one comes to the first one's house, whose wood is made of both lasts. */
        boolean marry(int one, int other) {
            int home = house[one];
            int former = house[other];
            int couple = 1 << one | 1 << other;
            if ((wed & couple) != 0 || home == former) {
                return false;
            }
            for (int zone = 0; zone < ZONES; zone++) {
                wood[home * ZONES + zone] = halfWay(home, former, zone);
            }
            dropLayers(home);
            house[other] = home;
            wed |= couple;
            return true;
        }

        int draw() {
            number = number * 1103515245 + 12345 & Integer.MAX_VALUE;
            return number / 65536;
        }

        int lastAt(int h, int zone) {
            return wood[h * ZONES + zone] + laid[h * ZONES + zone];
        }

        int halfWay(int one, int other, int zone) {
            return (lastAt(one, zone) + lastAt(other, zone)) / 2;
        }

        int sumOf(int h) {
            int all = 0;
            for (int zone = 0; zone < ZONES; zone++) {
                all += lastAt(h, zone);
            }
            return all;
        }

        int differ(int one, int other) {
            int all = 0;
            for (int zone = 0; zone < ZONES; zone++) {
                all += Math.abs(lastAt(one, zone) - lastAt(other, zone));
            }
            return all;
        }

        int farOf(Told told, int man, int h) {
            int all = 0;
            for (int zone = 0; zone < ZONES; zone++) {
                all += Math.abs(told.footAt(man, zone, bump[man]) - lastAt(h, zone));
            }
            return all;
        }

        int pinchOf(Told told, int man) {
            int all = 0;
            for (int zone = 0; zone < ZONES; zone++) {
                all += Math.max(0, told.footAt(man, zone, bump[man]) - lastAt(house[man], zone));
            }
            return all;
        }

        int pinchOfAll(Told told) {
            int all = 0;
            for (int man = 0; man < told.folk; man++) {
                all += pinchOf(told, man);
            }
            return all;
        }

        int cornsOfAll(Told told) {
            int all = 0;
            for (int man = 0; man < told.folk; man++) {
                all += corns[man];
            }
            return all;
        }

        int layersOfAll(Told told) {
            int all = 0;
            for (int h = 0; h < told.houses; h++) {
                all += layers[h];
            }
            return all;
        }
    }

    /** How a year goes by, and what laws are worth. */
    private static final class Years {
        /** The values of by, zone, much, pinch, corns, layers, year. */
        private final int[] names = new int[YEAR - BY + 1];
        private final long[] stack = new long[MOST_KNOTS];

        void pass(Told told, State state, int way) {
            if (way != NO_DEEDS) {
                doDeeds(told, state);
            }
            if (way != NO_WEDDINGS) {
                holdWeddings(told, state);
            }
            for (int man = 0; man < told.folk; man++) {
                wear(told, state, man, way);
            }
            if (isDamp(told, state, way)) {
                state.swell(told);
            }
            if (told.stripsIn(state.year)) {
                state.bareAll(told);
            }
            state.year++;
        }

        private void doDeeds(Told told, State state) {
            for (int i = 0; i < told.deeds; i++) {
                Deed deed = told.deed[i];
                if (deed.year == state.year) {
                    int by = cut(thickOf(told, state, i), MOST_BY, deed.by);
                    if (!state.putOn(deed.house, deed.zone, deed.slice ? -by : by)) {
                        state.refused++;
                    }
                }
            }
        }

        private void holdWeddings(Told told, State state) {
            for (int i = 0; i < told.weddings; i++) {
                Wedding wedding = told.wedding[i];
                if (wedding.year == state.year && !state.marry(wedding.one, wedding.other)) {
                    state.refused++;
                }
            }
        }

        /** Nobody bears less than 0, so without a pinch no law needs to be asked. */
        private void wear(Told told, State state, int man, int way) {
            int pinch = state.pinchOf(told, man);
            if (pinch == 0) {
                return;
            }
            nameMan(told, state, man, pinch);
            int bears = way == BEARS_NOTHING ? 0 : cut(told.bear.worth(names, stack), 999, 10);
            if (pinch > bears) {
                int more = cut(told.corn.worth(names, stack), 9, 1);
                state.corns[man] = Math.min(MOST_CORNS, state.corns[man] + 1);
                state.bump[man] = Math.min(MOST_BUMP, state.bump[man] + more);
            }
        }

        private boolean isDamp(Told told, State state, int way) {
            if (way == NO_DAMP || told.damp == 0) {
                return false;
            }
            if (told.damp == 100) {
                return true;
            }
            return way == BY_NUMBERS ? state.draw() % 100 < told.damp : told.damp >= 50;
        }

        /** E of thick of a deed as all is now, or ERROR. */
        long thickOf(Told told, State state, int i) {
            Deed deed = told.deed[i];
            names[0] = deed.by;
            names[1] = deed.zone;
            names[2] = state.lastAt(deed.house, deed.zone);
            names[3] = 0;
            names[4] = 0;
            names[5] = state.layers[deed.house];
            names[6] = state.year;
            return told.thick.worth(names, stack);
        }

        /** E of bear or corn of one of the folk as all is now, or ERROR. */
        long folkLawOf(Told told, State state, int man, Law law) {
            nameMan(told, state, man, state.pinchOf(told, man));
            return law.worth(names, stack);
        }

        private void nameMan(Told told, State state, int man, int pinch) {
            int zone = told.manZone[man];
            names[0] = 0;
            names[1] = zone;
            names[2] = state.lastAt(state.house[man], zone);
            names[3] = pinch;
            names[4] = state.corns[man];
            names[5] = state.layers[state.house[man]];
            names[6] = state.year;
        }

        /** A value cut to 0 .. most; what stands for it with an ERROR. */
        private static int cut(long value, int most, int otherwise) {
            if (value == ERROR) {
                return otherwise;
            }
            return (int) Math.max(0, Math.min(most, value));
        }
    }

    /** What was seen and struck, and by how many of these it is known. */
    private static final class Seen {
        int size;
        int knownBy = NONE;
        private final int[] year = new int[MOST_SEEN];
        private final int[] man = new int[MOST_SEEN];
        private final int[] corns = new int[MOST_SEEN];
        private final boolean[] atLeast = new boolean[MOST_SEEN];
        /** Which one a strike strikes; NONE of a sight. */
        private final int[] strikes = new int[MOST_SEEN];
        private final boolean[] counts = new boolean[MOST_SEEN];

        void clear() {
            size = 0;
            knownBy = NONE;
        }

        int knownNow() {
            return knownBy == NONE ? size : knownBy;
        }

        int noteSight(int newYear, int newMan, int newCorns, boolean newAtLeast) {
            if (size >= MOST_SEEN) {
                return NONE;
            }
            year[size] = newYear;
            man[size] = newMan;
            corns[size] = newCorns;
            atLeast[size] = newAtLeast;
            strikes[size] = NONE;
            size++;
            return size - 1;
        }

        int noteStrike(int which) {
            if (size >= MOST_SEEN) {
                return NONE;
            }
            strikes[size] = which;
            size++;
            return size - 1;
        }

        /** Settles which ones count; a strike is always behind what it strikes, so the last one is settled first. */
        void sift() {
            int known = knownNow();
            for (int i = 0; i < MOST_SEEN; i++) {
                counts[i] = i < known;
            }
            for (int i = known - 1; i >= 0; i--) {
                if (counts[i] && strikes[i] != NONE) {
                    counts[strikes[i]] = false;
                }
            }
        }

        private boolean isSight(int i) {
            return counts[i] && strikes[i] == NONE;
        }

        /** The latest year of all sights that count, 0 without any. */
        int latestYear() {
            int latest = 0;
            for (int i = 0; i < size; i++) {
                if (isSight(i)) {
                    latest = Math.max(latest, year[i]);
                }
            }
            return latest;
        }

        boolean holdsIn(int thisYear, State state) {
            for (int i = 0; i < size; i++) {
                if (isSight(i) && year[i] == thisYear && state.corns[man[i]] >= corns[i] != atLeast[i]) {
                    return false;
                }
            }
            return true;
        }
    }

    /** What was done by call and can be undone, the latest one last. */
    private static final class Done {
        int size;
        final int[] what = new int[MOST_DONE];
        final int[] who = new int[MOST_DONE];
        final int[] where = new int[MOST_DONE];
        final int[] by = new int[MOST_DONE];

        void note(int newWhat, int newWho, int newWhere, int newBy) {
            if (size >= MOST_DONE) {
                forgetFirst(what);
                forgetFirst(who);
                forgetFirst(where);
                forgetFirst(by);
                size = MOST_DONE - 1;
            }
            what[size] = newWhat;
            who[size] = newWho;
            where[size] = newWhere;
            by[size] = newBy;
            size++;
        }

        private static void forgetFirst(int[] row) {
            System.arraycopy(row, 1, row, 0, row.length - 1);
        }
    }

    /** Reckonings over what is now; its rows are made once and used again. */
    private static final class Reckoner {
        private static final int TOO_FAR = 1000000000;
        private static final int GROUPS = 1 << MOST_FOLK;

        final int[] paired = new int[MOST_HOUSES];
        int pairedFar;
        final int[] withCorns = new int[MOST_YEARS_SEEN + 1];
        private final int[] gap = new int[ZONES];
        private final int[] pairFar = new int[MOST_HOUSES * MOST_FOLK];
        /** The least sum for this house and all behind it, by which of the folk are taken ahead. */
        private final int[] leastFar = new int[(MOST_HOUSES + 1) * GROUPS];
        private final int[] reach = new int[MOST_HOUSES];
        private final boolean[] joined = new boolean[MOST_HOUSES];

        /** Goes through all choices of layers as through numbers, so that few layers change from one to the next. */
        int fewestOff(Told told, State state, int man, int n) {
            int home = state.house[man];
            int layers = state.layers[home];
            int far = 0;
            for (int zone = 0; zone < ZONES; zone++) {
                gap[zone] = state.lastAt(home, zone) - told.footAt(man, zone, state.bump[man]);
                far += Math.abs(gap[zone]);
            }
            int best = far <= n ? 0 : NOT_ANY;
            int fewest = far <= n ? 0 : MOST_LAYERS + 1;
            for (int off = 1; off < 1 << layers; off++) {
                for (int k = 0; k < layers && ((off ^ off - 1) >> k & 1) == 1; k++) {
                    int top = home * MOST_LAYERS + k;
                    far += shift(state.layerZone[top], (off >> k & 1) == 1 ? -state.layerBy[top] : state.layerBy[top]);
                }
                if (far <= n && Integer.bitCount(off) < fewest) {
                    best = off;
                    fewest = Integer.bitCount(off);
                }
            }
            return best;
        }

        private int shift(int zone, int by) {
            int before = Math.abs(gap[zone]);
            gap[zone] += by;
            return Math.abs(gap[zone]) - before;
        }

        void pair(Told told, State state) {
            for (int house = 0; house < told.houses; house++) {
                for (int man = 0; man < told.folk; man++) {
                    pairFar[house * MOST_FOLK + man] = state.farOf(told, man, house);
                }
            }
            int groups = 1 << told.folk;
            int most = Math.min(told.houses, told.folk);
            for (int group = 0; group < groups; group++) {
                leastFar[told.houses * GROUPS + group] = Integer.bitCount(group) == most ? 0 : TOO_FAR;
            }
            for (int house = told.houses - 1; house >= 0; house--) {
                for (int group = 0; group < groups; group++) {
                    leastFar[house * GROUPS + group] = leastFrom(told, house, group);
                }
            }
            pairedFar = leastFar[0];
            choosePairs(told);
        }

        private int leastFrom(Told told, int house, int group) {
            int least = leastFar[(house + 1) * GROUPS + group];
            for (int man = 0; man < told.folk; man++) {
                if ((group >> man & 1) == 0) {
                    least = Math.min(least, farWith(house, group, man));
                }
            }
            return Math.min(least, TOO_FAR);
        }

        private int farWith(int house, int group, int man) {
            return pairFar[house * MOST_FOLK + man] + leastFar[(house + 1) * GROUPS + (group | 1 << man)];
        }

        /** Takes the first of the folk by whom the least sum can still be had, so that of several the first is found. */
        private void choosePairs(Told told) {
            Arrays.fill(paired, NOT_ANY);
            int group = 0;
            for (int house = 0; house < told.houses; house++) {
                for (int man = 0; man < told.folk; man++) {
                    boolean free = (group >> man & 1) == 0;
                    if (free && farWith(house, group, man) == leastFar[house * GROUPS + group]) {
                        paired[house] = man;
                        group |= 1 << man;
                        break;
                    }
                }
            }
        }

        int leastJoining(Told told, State state) {
            for (int house = 0; house < told.houses; house++) {
                reach[house] = house == 0 ? 0 : TOO_FAR;
                joined[house] = false;
            }
            int all = 0;
            for (int round = 0; round < told.houses; round++) {
                int next = NONE;
                for (int house = 0; house < told.houses; house++) {
                    if (!joined[house] && (next == NONE || reach[house] < reach[next])) {
                        next = house;
                    }
                }
                if (next != NONE) {
                    joined[next] = true;
                    all += reach[next];
                    reachFrom(told, state, next);
                }
            }
            return all;
        }

        private void reachFrom(Told told, State state, int from) {
            for (int house = 0; house < told.houses; house++) {
                if (!joined[house]) {
                    reach[house] = Math.min(reach[house], state.differ(from, house));
                }
            }
        }

        /** Four times the house and how many layers, by which who begins wins; NONE: by none. A row counts modulo 4. */
        int winningMove(Told told, State state) {
            int odds = 0;
            for (int house = 0; house < told.houses; house++) {
                odds ^= state.layers[house] % 4;
            }
            for (int house = 0; house < told.houses && odds != 0; house++) {
                int layers = state.layers[house];
                for (int off = 1; off <= 3 && off <= layers; off++) {
                    if ((odds ^ layers % 4 ^ (layers - off) % 4) == 0) {
                        return house * 4 + off;
                    }
                }
            }
            return NONE;
        }

        boolean isRest(State state, int one, int other, int first, int second) {
            int like = state.differ(one, other);
            int mine = share(like, state.layers[one], first, second);
            int theirs = share(like, state.layers[other], second, first);
            return mine >= share(like, state.layers[one], 1 - first, second)
                    && theirs >= share(like, state.layers[other], 1 - second, first);
        }

        private static int share(int like, int layers, int own, int others) {
            if (own == 0) {
                return others == 0 ? 20 - layers : like / 4;
            }
            return others == 0 ? layers : like / 8;
        }
    }
}
