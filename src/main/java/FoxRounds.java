/** A fox and a hen house, as ../shared/DOC.md promises it. */
public final class FoxRounds {
    private static final int LOW = -1000000000;
    private static final int BEYOND = 1;
    private static final int NONE = 2;
    private static final int STATE = 3;
    private static final int FULL = 4;
    private static final int UNLIKE = 5;

    private static final int MOST_WAYS = 8;
    private static final int MOST_THINGS = 5;
    private static final int MOST_IDLE = 4;
    private static final int MOST_AHEAD = 60;
    private static final int LAST_NIGHT = 999;
    private static final int MONTHS = 12;
    private static final int MINUTES = 1440;
    private static final int MOST_BYTES = 50;
    private static final int MOST_WAITING = 20;
    private static final int SHEETS = 4;
    private static final int MOST_NUMBERS = 40;
    private static final int MOST_BODIES = 40;
    private static final int YARDS = 6;
    private static final int MOST_ROUNDS = 20;

    // KINDS, and the KIND above each.
    private static final int WAY = 0;
    private static final int DOOR = 1;
    private static final int DUG = 2;
    private static final int LOOSE = 3;
    private static final int SKIRTED = 4;
    private static final int TORN = 5;
    private static final int CLOCKED = 6;
    private static final int[] ABOVE = {-1, WAY, WAY, WAY, DUG, LOOSE, DOOR};

    // Places in the row of a WAY, as ofWay() numbers them.
    private static final int KIND = 0;
    private static final int STRONG = 1;
    private static final int M = 2;
    private static final int COST = 3;
    private static final int WEAR = 4;
    private static final int MEMORY = 5;
    private static final int EASE = 6;

    // Places in the row of a THING, as ofThing() numbers them.
    private static final int FRIGHT = 0;
    private static final int FADES = 1;
    private static final int HUNG = 2;

    // Places in the row of single numbers, as set() numbers them.
    private static final int HENS = 0;
    private static final int FOXES = 1;
    private static final int HUNGER = 2;
    private static final int BITE = 3;
    private static final int FORGOTTEN = 4;
    private static final int LONG = 5;
    private static final int LAG = 6;
    private static final int EARLY = 7;
    private static final int[] LOWEST = {0, 1, 0, 0, 0, 60, 0, -120};
    private static final int[] HIGHEST = {99, 4, 99, 99, 1, 900, 120, 240};
    private static final int[] AT_FIRST = {11, 1, 20, 0, 0, 480, 20, 30};

    // USES of TEXTS. A TEXT is kept with its operators behind what they join:
    // numbers as they are, the k-th NAME as -1 - k, an operator as its sign below 0.
    private static final int ENTERS = 0;
    private static final int KILLS = 1;
    private static final int STAYS = 2;
    private static final int MOST_NAMES = 5;
    private static final int MOST_OPEN = 5;
    private static final int MOST_DIGITS = 4;
    private static final int[] FIRST_ENTERS = {-1, -2, -'+', 99, -'>'};
    private static final int[] FIRST_KILLS = {-2, 3, -'*', -3, 50, -'>', 3, -'*', -'+'};
    private static final int[] FIRST_STAYS = {-1, -1, 30, -'/', -'-'};

    private static final int[] FACTORIAL = {1, 1, 2, 6, 24};

    private final World world = new World();
    private final World kept = new World();
    private int images = 0;
    private final Ahead ahead = new Ahead(world.house, world.laws);
    private final Reader reader = new Reader();
    private final Voices voices = new Voices();
    private final Sheet[] sheets = new Sheet[SHEETS];
    private final int[] told = new int[UNLIKE + 1];

    public FoxRounds() {
        for (int i = 0; i < SHEETS; i++) {
            sheets[i] = new Sheet();
        }
    }

    // ---- ways, things

    public int set(int what, int v) {
        if (!within(what, HENS, EARLY) || !within(v, LOWEST[what], HIGHEST[what])) {
            return error(BEYOND);
        }
        int was = world.house.number[what];
        world.house.number[what] = v;
        return was;
    }

    public int way(int kind, int sm, int cost) {
        if (!isWay(kind, sm, cost)) {
            return error(BEYOND);
        }
        if (world.house.ways >= MOST_WAYS) {
            return error(FULL);
        }
        return world.house.addWay(kind, sm, cost);
    }

    public int ofWay(int way, int what) {
        if (!world.house.hasWay(way) || !within(what, KIND, EASE)) {
            return error(BEYOND);
        }
        return world.house.wayPart(way, what);
    }

    public int wear(int way, int what, int v) {
        boolean known = what == STRONG || what == WEAR || what == MEMORY;
        if (!world.house.hasWay(way) || !known || !within(v, 0, what == MEMORY ? 9 : 99)) {
            return error(BEYOND);
        }
        int[] row = world.house.way[way];
        int was = row[what];
        row[what] = v;
        return was;
    }

    public int as(int way, int kind) {
        if (!world.house.hasWay(way) || !within(kind, WAY, CLOCKED)) {
            return error(BEYOND);
        }
        int[] row = world.house.way[way];
        return isUnder(row[KIND], kind) ? row[STRONG] : error(UNLIKE);
    }

    public int ways(int sheet) {
        int bad = sheetError(sheet);
        if (bad != 0) {
            return error(bad);
        }
        Sheet from = sheets[sheet];
        int came = 0;
        for (int i = 0; i + 2 < from.length; i += 3) {
            int[] row = from.row;
            if (world.house.ways >= MOST_WAYS || !isWay(row[i], row[i + 1], row[i + 2])) {
                break;
            }
            world.house.addWay(row[i], row[i + 1], row[i + 2]);
            came++;
        }
        return came;
    }

    public int mend(int way) {
        if (!world.house.hasWay(way)) {
            return error(BEYOND);
        }
        world.house.mendWay(way);
        return world.house.way[way][STRONG];
    }

    public int thing(int fright, int fades) {
        if (!within(fright, 0, 99) || !within(fades, 0, 30)) {
            return error(BEYOND);
        }
        if (world.house.things >= MOST_THINGS) {
            return error(FULL);
        }
        return world.house.addThing(fright, fades);
    }

    public int ofThing(int thing, int what) {
        if (!world.house.hasThing(thing) || !within(what, FRIGHT, HUNG)) {
            return error(BEYOND);
        }
        return world.house.thing[thing][what];
    }

    public int hang(int thing, int is) {
        if (!world.house.hasThing(thing) || !within(is, 0, 1)) {
            return error(BEYOND);
        }
        int[] row = world.house.thing[thing];
        int was = row[HUNG];
        row[HUNG] = is;
        return was;
    }

    public int bitten() {
        int was = world.house.number[BITE];
        world.house.number[BITE] = 99;
        return was;
    }

    public int bold() {
        return world.house.boldness();
    }

    // ---- texts, nights

    public int feed(long word, int n) {
        if (!within(n, 1, 8)) {
            return error(BEYOND);
        }
        if (world.taped + n > MOST_BYTES) {
            return error(FULL);
        }
        for (int i = 0; i < n; i++) {
            world.tape[world.taped] = (byte) (word >>> (8 * i));
            world.taped++;
        }
        return world.taped;
    }

    public int text(int use) {
        if (!within(use, ENTERS, STAYS)) {
            return error(BEYOND);
        }
        int fault = reader.faultOf(world.tape, world.taped, namesOf(use));
        world.taped = 0;
        if (fault >= 0) {
            return -10 - fault;
        }
        world.laws.textOf(use).copyFrom(reader.read);
        return 1;
    }

    public int law(int use, int a, int b, int c) {
        switch (use) {
            case ENTERS:
                return world.laws.enters(a, b, c, 0, 0);
            case KILLS:
                return world.laws.kills(a, b, c);
            case STAYS:
                return world.laws.stays(a, b);
            default:
                return error(BEYOND);
        }
    }

    public int nights(int n) {
        int bad = nightsError(n);
        if (bad != 0) {
            return error(bad);
        }
        for (int i = 0; i < n; i++) {
            world.house.passNight(world.laws);
        }
        return world.house.number[HENS];
    }

    public int careless(int n, int careless) {
        int bad = within(careless, 0, 100) ? nightsError(n) : BEYOND;
        if (bad != 0) {
            return error(bad);
        }
        for (int i = 0; i < n; i++) {
            if (world.draw() % 100 < careless) {
                world.house.number[FORGOTTEN] = 1;
            }
            world.house.passNight(world.laws);
        }
        return world.house.number[HENS];
    }

    // ---- ahead

    public int then(int n, int what) {
        if (!within(n, 0, MOST_AHEAD) || !within(what, 0, 5)) {
            return error(BEYOND);
        }
        House then = ahead.goOn(n);
        switch (what) {
            case 0:
                return then.number[HENS];
            case 1:
                return then.killed;
            case 2:
                return then.number[HUNGER];
            case 3:
                return then.number[BITE];
            case 4:
                return then.fear();
            default:
                return then.boldness();
        }
    }

    public int thenWay(int n, int way, int what) {
        if (!within(n, 0, MOST_AHEAD) || !world.house.hasWay(way) || !within(what, KIND, EASE)) {
            return error(BEYOND);
        }
        return ahead.goOn(n).wayPart(way, what);
    }

    public int loss(int n) {
        if (!within(n, 1, MOST_AHEAD)) {
            return error(BEYOND);
        }
        int first = ahead.firstLoss(n);
        return first > 0 ? first : error(NONE);
    }

    public int by() {
        return ahead.goOn(1).entry;
    }

    public int mends(int c, int n, int what) {
        if (!within(c, 0, 999) || !within(n, 0, MOST_AHEAD) || !within(what, 0, 1)) {
            return error(BEYOND);
        }
        ahead.chooseMends(c, n);
        return what == 0 ? ahead.bestSet : ahead.bestHens;
    }

    public int hangs(int n, int i) {
        if (!within(n, 0, MOST_AHEAD) || i < -1) {
            return error(BEYOND);
        }
        int idle = world.house.idleThings();
        if (idle > MOST_IDLE) {
            return error(STATE);
        }
        if (i >= idle) {
            return error(NONE);
        }
        ahead.chooseHangs(n);
        return i < 0 ? ahead.bestHens : ahead.bestRow[i];
    }

    // ---- the door, odds, the village, signs

    public int dusk(int month, int v) {
        if (!within(month, 0, MONTHS - 1) || !within(v, 0, MINUTES - 1)) {
            return error(BEYOND);
        }
        int was = world.dusk[month];
        world.dusk[month] = v;
        return was;
    }

    public int harm(int minute) {
        return within(minute, 0, MINUTES - 1) ? world.harmAt(minute) : error(BEYOND);
    }

    public int clock() {
        int best = 0;
        int least = world.harmAt(0);
        for (int minute = 1; minute < MINUTES; minute++) {
            int harm = world.harmAt(minute);
            if (harm < least) {
                best = minute;
                least = harm;
            }
        }
        return best;
    }

    public long odds(int pq, int n, int part) {
        int p = pq / 10;
        int q = pq % 10;
        if (!within(q, 1, 9) || !within(p, 0, q) || !within(n, 0, 12) || !within(part, 0, 1)) {
            return error(BEYOND);
        }
        int common = Math.max(1, commonDivisor(q - p, q));
        // Powers of numbers without a common divisor have none either.
        return power((part == 0 ? q - p : q) / common, n);
    }

    public int yard(int yard, int price, int loss, int shut) {
        boolean paid = within(price, 0, 99) && within(loss, 0, 99);
        if (!within(yard, 0, YARDS - 1) || !paid || !within(shut, 0, 1)) {
            return error(BEYOND);
        }
        int was = world.village.price[yard];
        world.village.price[yard] = price;
        world.village.loss[yard] = loss;
        world.village.shut[yard] = shut;
        return was;
    }

    public int village(int what) {
        if (!within(what, 0, 1)) {
            return error(BEYOND);
        }
        world.village.settle();
        return what == 0 ? world.village.rounds : world.village.shutThen();
    }

    public int off(int sheet) {
        int bad = sheetError(sheet);
        return bad != 0 ? error(bad) : ahead.offBy(sheets[sheet], world.house.number[HUNGER]);
    }

    public int hungry(int sheet) {
        int bad = sheetError(sheet);
        return bad != 0 ? error(bad) : ahead.hungerBy(sheets[sheet]);
    }

    // ---- draws, voices, sheets, images, what is told

    public int seed(int v) {
        int was = world.z;
        world.z = v;
        return was;
    }

    public int voice(int way, int act, int x) {
        if (!world.house.hasWay(way) || !within(act, 0, 3)) {
            return error(BEYOND);
        }
        int[] row = world.house.way[way];
        return voices.speak(row[KIND], way, row[M], act, x);
    }

    public int trace(int i) {
        return within(i, 0, voices.traced - 1) ? voices.trace[i] : error(NONE);
    }

    public int sheet(int sheet, int bits, int n) {
        boolean width = bits == 0 || bits == 8 || bits == 16 || bits == 32;
        if (!isSheet(sheet) || !width) {
            return error(BEYOND);
        }
        if (bits != 0 && n < 0) {
            return error(STATE);
        }
        if (bits != 0 && n > MOST_NUMBERS) {
            return error(BEYOND);
        }
        sheets[sheet].renew(bits, bits == 0 ? 0 : n);
        return 1;
    }

    public int put(int sheet, int i, int v) {
        int bad = sheetError(sheet);
        if (bad != 0) {
            return error(bad);
        }
        if (!within(i, 0, sheets[sheet].length - 1)) {
            return error(BEYOND);
        }
        sheets[sheet].change(i, v);
        return 1;
    }

    public int move(int sheet, int i, int other, int j, int n) {
        if (!isSheet(sheet) || !isSheet(other)) {
            return error(BEYOND);
        }
        Sheet from = sheets[sheet];
        Sheet to = sheets[other];
        if (from.isMissing() || to.isMissing()) {
            return error(NONE);
        }
        if (from.bits != to.bits) {
            return error(UNLIKE);
        }
        if (!from.holds(i, n) || !to.holds(j, n)) {
            return error(BEYOND);
        }
        System.arraycopy(from.row, i, to.row, j, n);
        return n;
    }

    public int image() {
        kept.copyFrom(world);
        images++;
        return images;
    }

    public int restore() {
        if (images == 0) {
            return error(NONE);
        }
        world.copyFrom(kept);
        return world.house.tonight;
    }

    public int tell(int v) {
        if (world.waiting >= MOST_WAITING) {
            return error(FULL);
        }
        world.waits[world.waiting] = v;
        world.waiting++;
        return world.waiting;
    }

    public int check() {
        int waiting = world.waiting;
        world.waiting = 0;
        return ahead.firstUnlike(world.waits, waiting);
    }

    public int count(int what) {
        switch (what) {
            case 0:
                return world.house.tonight;
            case 1:
                return world.house.ways;
            case 2:
                return world.house.things;
            case 3:
                return world.house.killed;
            case 4:
                return world.taped;
            case 5:
                return world.waiting;
            case 6:
                return voices.traced;
            case 7:
                return world.z;
            default:
                return error(BEYOND);
        }
    }

    public int told(int k) {
        return within(k, BEYOND, UNLIKE) ? told[k] : error(BEYOND);
    }

    // ---- what the calls share

    private int error(int k) {
        if (within(k, BEYOND, UNLIKE)) {
            told[k]++;
        }
        return LOW - k;
    }

    private int nightsError(int n) {
        if (!within(n, 1, MOST_AHEAD)) {
            return BEYOND;
        }
        return world.house.tonight + n > LAST_NIGHT ? STATE : 0;
    }

    private int sheetError(int sheet) {
        if (!isSheet(sheet)) {
            return BEYOND;
        }
        return sheets[sheet].isMissing() ? NONE : 0;
    }

    private static boolean isSheet(int sheet) {
        return within(sheet, 0, SHEETS - 1);
    }

    private static boolean isWay(int kind, int sm, int cost) {
        return within(kind, WAY, CLOCKED) && within(sm, 0, 9999) && within(cost, 0, 99);
    }

    private static boolean isUnder(int kind, int top) {
        int at = kind;
        for (int step = 0; step < ABOVE.length && within(at, WAY, CLOCKED); step++) {
            if (at == top) {
                return true;
            }
            at = ABOVE[at];
        }
        return false;
    }

    private static boolean within(int v, int lowest, int highest) {
        return v >= lowest && v <= highest;
    }

    private static int held(int v, int lowest, int highest) {
        // The lowest wins where highest is below it: law() may ask for that.
        return Math.max(lowest, Math.min(v, highest));
    }

    private static int commonDivisor(int a, int b) {
        int least = a;
        int most = b;
        for (int step = 0; step < 32 && least != 0; step++) {
            int rest = most % least;
            most = least;
            least = rest;
        }
        return most;
    }

    private static long power(int base, int n) {
        long power = 1;
        for (int i = 0; i < n; i++) {
            power *= base;
        }
        return power;
    }

    private static String namesOf(int use) {
        switch (use) {
            case ENTERS:
                return "ebmwt";
            case KILLS:
                return "hfg";
            default:
                return "at";
        }
    }

    /** All that an IMAGE keeps. */
    private static final class World {
        final House house = new House();
        final Laws laws = new Laws();
        final Village village = new Village();
        final byte[] tape = new byte[MOST_BYTES];
        int taped = 0;
        final int[] waits = new int[MOST_WAITING];
        int waiting = 0;
        final int[] dusk = new int[MONTHS];
        int z = 1;

        World() {
            for (int i = 0; i < MONTHS; i++) {
                dusk[i] = 1080;
            }
        }

        void copyFrom(World other) {
            house.copyFrom(other.house);
            laws.copyFrom(other.laws);
            village.copyFrom(other.village);
            System.arraycopy(other.tape, 0, tape, 0, MOST_BYTES);
            taped = other.taped;
            System.arraycopy(other.waits, 0, waits, 0, MOST_WAITING);
            waiting = other.waiting;
            System.arraycopy(other.dusk, 0, dusk, 0, MONTHS);
            z = other.z;
        }

        int draw() {
            z = z * 1103515245 + 12345;
            return z >>> 8;
        }

        int harmAt(int minute) {
            int harm = 0;
            for (int i = 0; i < MONTHS; i++) {
                if (dusk[i] + house.number[LAG] > minute) {
                    harm += 2;
                }
                if (minute > dusk[i] + house.number[EARLY]) {
                    harm += 5;
                }
            }
            return harm;
        }
    }

    /** What NIGHTS go by with: the single numbers, WAYS and THINGS. */
    private static final class House {
        final int[] number = new int[EARLY + 1];
        int tonight = 0;
        int killed = 0;
        final int[][] way = new int[MOST_WAYS][EASE];
        int ways = 0;
        final int[][] thing = new int[MOST_THINGS][HUNG + 1];
        int things = 0;
        /** The WAY by which it got in in the latest NIGHT, or -1. */
        int entry = -1;
        private final int[] order = new int[MOST_WAYS];

        House() {
            System.arraycopy(AT_FIRST, 0, number, 0, number.length);
        }

        void copyFrom(House other) {
            System.arraycopy(other.number, 0, number, 0, number.length);
            tonight = other.tonight;
            killed = other.killed;
            ways = other.ways;
            for (int i = 0; i < MOST_WAYS; i++) {
                System.arraycopy(other.way[i], 0, way[i], 0, EASE);
            }
            things = other.things;
            for (int i = 0; i < MOST_THINGS; i++) {
                System.arraycopy(other.thing[i], 0, thing[i], 0, HUNG + 1);
            }
        }

        boolean hasWay(int w) {
            return within(w, 0, ways - 1);
        }

        boolean hasThing(int t) {
            return within(t, 0, things - 1);
        }

        /** The caller has seen that there is room. */
        int addWay(int kind, int sm, int cost) {
            int[] row = way[ways];
            row[KIND] = kind;
            row[STRONG] = sm / 100;
            row[M] = sm % 100;
            row[COST] = cost;
            row[WEAR] = 0;
            row[MEMORY] = 0;
            ways++;
            return ways - 1;
        }

        /** The caller has seen that there is room. */
        int addThing(int fright, int fades) {
            int[] row = thing[things];
            row[FRIGHT] = fright;
            row[FADES] = fades;
            row[HUNG] = 0;
            things++;
            return things - 1;
        }

        int wayPart(int w, int what) {
            return what == EASE ? ease(way[w]) : way[w][what];
        }

        void mendWay(int w) {
            way[w][STRONG] = Math.min(99, way[w][STRONG] + 50);
            way[w][WEAR] = 0;
        }

        int idleThings() {
            int idle = 0;
            for (int i = 0; i < things; i++) {
                idle += 1 - thing[i][HUNG];
            }
            return idle;
        }

        int fear() {
            int fear = number[BITE];
            for (int i = 0; i < things; i++) {
                if (thing[i][HUNG] == 1) {
                    fear += thing[i][FRIGHT];
                }
            }
            return fear;
        }

        int boldness() {
            return number[HUNGER] - fear() + 5 * number[FOXES];
        }

        private int ease(int[] row) {
            switch (row[KIND]) {
                case DOOR:
                    return doorEase(row);
                case CLOCKED:
                    return doorEase(row) - (within(month(), 5, 7) ? row[M] : 0);
                case DUG:
                    return dugEase(row);
                case SKIRTED:
                    return dugEase(row) - row[M];
                case LOOSE:
                    return looseEase(row);
                case TORN:
                    return looseEase(row) + row[M];
                default:
                    return 99 - row[STRONG];
            }
        }

        private int doorEase(int[] row) {
            return number[FORGOTTEN] == 1 ? 99 : 99 - row[STRONG];
        }

        private int dugEase(int[] row) {
            int frost = month() <= 1 || month() == 11 ? 20 : 0;
            return 99 - row[STRONG] + 3 * row[WEAR] - frost;
        }

        private int looseEase(int[] row) {
            return 99 - row[STRONG] + 5 * row[WEAR];
        }

        private int month() {
            return tonight / 30 % MONTHS;
        }

        void passNight(Laws laws) {
            entry = number[HENS] > 0 ? goRound(laws) : -1;
            if (entry >= 0) {
                comeIn(way[entry], laws);
            } else {
                number[HUNGER] = Math.min(99, number[HUNGER] + 5);
            }
            for (int i = 0; i < things; i++) {
                int[] row = thing[i];
                if (row[HUNG] == 1) {
                    row[FRIGHT] = Math.max(0, row[FRIGHT] - row[FADES]);
                }
            }
            number[BITE] = laws.stays(number[BITE], tonight);
            number[FORGOTTEN] = 0;
            tonight++;
        }

        /** The WAY that lets it in, or -1. */
        private int goRound(Laws laws) {
            orderByMemory();
            // Nothing that BOLD is made of changes before it gets in.
            int bold = boldness();
            int taken = 0;
            for (int i = 0; i < ways; i++) {
                int[] row = way[order[i]];
                taken += 20 + row[STRONG] / 2;
                if (taken > number[LONG]) {
                    return -1;
                }
                int ease = ease(row);
                if (laws.enters(ease, bold, row[MEMORY], row[WEAR], tonight) != 0) {
                    return order[i];
                }
                turnAway(row, ease + bold >= 70);
            }
            return -1;
        }

        private void orderByMemory() {
            for (int w = 0; w < ways; w++) {
                int at = w;
                while (at > 0 && way[order[at - 1]][MEMORY] < way[w][MEMORY]) {
                    order[at] = order[at - 1];
                    at--;
                }
                order[at] = w;
            }
        }

        private void turnAway(int[] row, boolean promising) {
            row[WEAR] = Math.min(99, row[WEAR] + 1);
            row[MEMORY] = held(row[MEMORY] + (promising ? 1 : -1), 0, 9);
        }

        private void comeIn(int[] row, Laws laws) {
            int dead = laws.kills(number[HENS], number[FOXES], number[HUNGER]);
            number[HENS] -= dead;
            killed += dead;
            number[HUNGER] = Math.max(0, number[HUNGER] - 10 * dead);
            row[MEMORY] = 9;
        }
    }

    /** The TEXTS of the three USES, and what they give. */
    private static final class Laws {
        private final Text enters = new Text(FIRST_ENTERS);
        private final Text kills = new Text(FIRST_KILLS);
        private final Text stays = new Text(FIRST_STAYS);
        private final int[] names = new int[MOST_NAMES];

        Text textOf(int use) {
            switch (use) {
                case ENTERS:
                    return enters;
                case KILLS:
                    return kills;
                default:
                    return stays;
            }
        }

        void copyFrom(Laws other) {
            enters.copyFrom(other.enters);
            kills.copyFrom(other.kills);
            stays.copyFrom(other.stays);
        }

        int enters(int e, int b, int m, int w, int t) {
            names[0] = e;
            names[1] = b;
            names[2] = m;
            names[3] = w;
            names[4] = t;
            return enters.value(names);
        }

        int kills(int h, int f, int g) {
            names[0] = h;
            names[1] = f;
            names[2] = g;
            return held(kills.value(names), 0, h);
        }

        int stays(int a, int t) {
            names[0] = a;
            names[1] = t;
            return held(stays.value(names), 0, 99);
        }
    }

    /** A TEXT, its operators behind what they join. */
    private static final class Text {
        private final int[] code = new int[MOST_BYTES];
        private int length = 0;
        private final int[] stack = new int[MOST_BYTES];

        Text(int[] first) {
            for (int i = 0; i < first.length; i++) {
                add(first[i]);
            }
        }

        void clear() {
            length = 0;
        }

        void add(int c) {
            if (length < MOST_BYTES) {
                code[length] = c;
                length++;
            }
        }

        void copyFrom(Text other) {
            System.arraycopy(other.code, 0, code, 0, MOST_BYTES);
            length = other.length;
        }

        int value(int[] names) {
            int top = 0;
            for (int i = 0; i < length; i++) {
                int c = code[i];
                if (c >= 0) {
                    stack[top] = c;
                    top++;
                } else if (c >= -MOST_NAMES) {
                    stack[top] = names[-1 - c];
                    top++;
                } else if (c == -'!' && top > 0) {
                    stack[top - 1] = stack[top - 1] == 0 ? 1 : 0;
                } else if (top > 1) {
                    top--;
                    stack[top - 1] = join(-c, stack[top - 1], stack[top]);
                }
            }
            return stack[0];
        }

        private static int join(int sign, int a, int b) {
            switch (sign) {
                case '|':
                    return a != 0 || b != 0 ? 1 : 0;
                case '&':
                    return a != 0 && b != 0 ? 1 : 0;
                case '<':
                    return a < b ? 1 : 0;
                case '=':
                    return a == b ? 1 : 0;
                case '>':
                    return a > b ? 1 : 0;
                case '+':
                    return a + b;
                case '-':
                    return a - b;
                case '*':
                    return a * b;
                case '/':
                    return b == 0 ? 0 : a / b;
                default:
                    return b == 0 ? 0 : a % b;
            }
        }
    }

    /** Reads THE TAPE as a TEXT, or finds its FAULT. */
    private static final class Reader {
        private static final int COMPARES = 3;
        final Text read = new Text(new int[0]);
        private byte[] tape = new byte[0];
        private int taped = 0;
        private String names = "";
        private int at = 0;
        /** Signs that wait for what stands right of them, the ( too. */
        private final int[] signs = new int[MOST_BYTES];
        private int waiting = 0;
        private int open = 0;
        private int brackets = 0;
        private boolean operandDue = true;

        /** -1, if there is none: then it stands in read. */
        int faultOf(byte[] tape, int taped, String names) {
            this.tape = tape;
            this.taped = Math.min(taped, tape.length);
            this.names = names;
            begin();
            for (int step = 0; step < this.taped && at < this.taped; step++) {
                if (!(operandDue ? takeOperand(tape[at]) : takeFollower(tape[at]))) {
                    return at;
                }
            }
            if (operandDue || brackets > 0) {
                return this.taped;
            }
            popDownTo(1);
            return -1;
        }

        private void begin() {
            read.clear();
            at = 0;
            waiting = 0;
            open = 0;
            brackets = 0;
            operandDue = true;
        }

        private boolean takeOperand(int sign) {
            if (sign == '!' || sign == '(') {
                return takeOpening(sign);
            }
            int name = sign > 0 ? names.indexOf((char) sign) : -1;
            if (name >= 0) {
                read.add(-1 - name);
                at++;
            } else if (isDigit(sign)) {
                takeNumber();
            } else {
                return false;
            }
            endOperand();
            return true;
        }

        private boolean takeOpening(int sign) {
            if (open >= MOST_OPEN) {
                return false;
            }
            open++;
            brackets += sign == '(' ? 1 : 0;
            pushSign(sign);
            at++;
            return true;
        }

        private void takeNumber() {
            int number = 0;
            int end = Math.min(taped, at + MOST_DIGITS);
            while (at < end && isDigit(tape[at])) {
                number = number * 10 + tape[at] - '0';
                at++;
            }
            read.add(number);
        }

        /** A ! is open no longer than what it is ahead of. */
        private void endOperand() {
            while (waiting > 0 && signs[waiting - 1] == '!') {
                waiting--;
                open--;
                read.add(-'!');
            }
            operandDue = false;
        }

        private boolean takeFollower(int sign) {
            if (sign == ')') {
                return takeClosing();
            }
            int level = levelOf(sign);
            if (level == 0) {
                return false;
            }
            popDownTo(level == COMPARES ? COMPARES + 1 : level);
            // Comparisons don't follow one another.
            if (level == COMPARES && waiting > 0 && levelOf(signs[waiting - 1]) == COMPARES) {
                return false;
            }
            pushSign(sign);
            operandDue = true;
            at++;
            return true;
        }

        private boolean takeClosing() {
            if (brackets == 0) {
                return false;
            }
            popDownTo(1);
            waiting = Math.max(0, waiting - 1);
            brackets--;
            open--;
            at++;
            endOperand();
            return true;
        }

        private void pushSign(int sign) {
            if (waiting < MOST_BYTES) {
                signs[waiting] = sign;
                waiting++;
            }
        }

        /** Signs that join as tightly as this or more go behind what they join. */
        private void popDownTo(int level) {
            while (waiting > 0 && levelOf(signs[waiting - 1]) >= level) {
                waiting--;
                read.add(-signs[waiting]);
            }
        }

        private static boolean isDigit(int sign) {
            return sign >= '0' && sign <= '9';
        }

        /** How tightly a sign joins, 0 if it joins nothing. */
        private static int levelOf(int sign) {
            switch (sign) {
                case '|':
                    return 1;
                case '&':
                    return 2;
                case '<':
                case '=':
                case '>':
                    return COMPARES;
                case '+':
                case '-':
                    return 4;
                case '*':
                case '/':
                case '%':
                    return 5;
                default:
                    return 0;
            }
        }
    }

    /** What would be, from now on; nothing of now changes. */
    private static final class Ahead {
        private final House now;
        private final Laws laws;
        private final House then = new House();
        int bestHens = 0;
        int bestSet = 0;
        final int[] bestRow = new int[MOST_IDLE];
        private final int[] row = new int[MOST_IDLE];
        private final int[] idle = new int[MOST_IDLE];

        Ahead(House now, Laws laws) {
            this.now = now;
            this.laws = laws;
        }

        House goOn(int n) {
            then.copyFrom(now);
            for (int i = 0; i < n; i++) {
                then.passNight(laws);
            }
            return then;
        }

        /** 0, if there is none. */
        int firstLoss(int n) {
            then.copyFrom(now);
            for (int i = 1; i <= n; i++) {
                then.passNight(laws);
                if (then.killed > now.killed) {
                    return i;
                }
            }
            return 0;
        }

        /** 0, if all are alike, else 1 and the place of the first that isn't. */
        int firstUnlike(int[] entries, int n) {
            then.copyFrom(now);
            for (int i = 0; i < n && i < entries.length; i++) {
                then.passNight(laws);
                if (then.entry != entries[i]) {
                    return i + 1;
                }
            }
            return 0;
        }

        void chooseMends(int c, int n) {
            int bestCost = 0;
            bestSet = 0;
            bestHens = -1;
            for (int set = 0; set < 1 << now.ways; set++) {
                int cost = costOf(set);
                if (cost > c) {
                    continue;
                }
                int hens = hensMended(set, n);
                if (hens > bestHens || hens == bestHens && cost < bestCost) {
                    bestSet = set;
                    bestHens = hens;
                    bestCost = cost;
                }
            }
        }

        private int costOf(int set) {
            int cost = 0;
            for (int w = 0; w < now.ways; w++) {
                if ((set >> w & 1) == 1) {
                    cost += now.way[w][COST];
                }
            }
            return cost;
        }

        private int hensMended(int set, int n) {
            then.copyFrom(now);
            for (int w = 0; w < then.ways; w++) {
                if ((set >> w & 1) == 1) {
                    then.mendWay(w);
                }
            }
            for (int i = 0; i < n; i++) {
                then.passNight(laws);
            }
            return then.number[HENS];
        }

        void chooseHangs(int n) {
            int k = Math.min(now.idleThings(), MOST_IDLE);
            bestHens = -1;
            for (int place = 0; place < FACTORIAL[k]; place++) {
                arrange(place, k);
                int hens = hensHung(n, k);
                if (hens > bestHens) {
                    bestHens = hens;
                    System.arraycopy(row, 0, bestRow, 0, k);
                }
            }
        }

        /** The row becomes that at this place among all rows of the k idle THINGS. */
        private void arrange(int place, int k) {
            listIdle();
            int rest = place;
            for (int i = 0; i < k; i++) {
                int rows = Math.max(1, FACTORIAL[k - 1 - i]);
                int pick = Math.min(rest / rows, k - 1 - i);
                rest %= rows;
                row[i] = idle[pick];
                System.arraycopy(idle, pick + 1, idle, pick, MOST_IDLE - 1 - pick);
            }
        }

        private void listIdle() {
            int k = 0;
            for (int t = 0; t < now.things && k < MOST_IDLE; t++) {
                if (now.thing[t][HUNG] == 0) {
                    idle[k] = t;
                    k++;
                }
            }
        }

        private int hensHung(int n, int k) {
            then.copyFrom(now);
            for (int i = 0; i < n; i++) {
                if (i < k) {
                    then.thing[row[i]][HUNG] = 1;
                }
                then.passNight(laws);
            }
            return then.number[HENS];
        }

        int offBy(Sheet signs, int hunger) {
            then.copyFrom(now);
            then.number[HUNGER] = hunger;
            int off = 0;
            for (int i = 0; i < signs.length; i++) {
                then.passNight(laws);
                long apart = Math.abs((long) signs.row[i] - then.number[HENS]);
                off += (int) Math.min(1000, apart);
            }
            return off;
        }

        int hungerBy(Sheet signs) {
            int best = 0;
            int least = offBy(signs, 0);
            for (int hunger = 1; hunger <= 99; hunger++) {
                int off = offBy(signs, hunger);
                if (off < least) {
                    best = hunger;
                    least = off;
                }
            }
            return best;
        }
    }

    /** The yards, and where they come to rest. */
    private static final class Village {
        final int[] price = new int[YARDS];
        final int[] loss = new int[YARDS];
        final int[] shut = new int[YARDS];
        /** How many rounds the latest settle() took, -1 if it found no rest. */
        int rounds = 0;
        private final int[] then = new int[YARDS];

        void copyFrom(Village other) {
            System.arraycopy(other.price, 0, price, 0, YARDS);
            System.arraycopy(other.loss, 0, loss, 0, YARDS);
            System.arraycopy(other.shut, 0, shut, 0, YARDS);
        }

        void settle() {
            System.arraycopy(shut, 0, then, 0, YARDS);
            rounds = -1;
            for (int round = 1; round <= MOST_ROUNDS; round++) {
                if (!changesInARound()) {
                    rounds = round;
                    return;
                }
            }
        }

        private boolean changesInARound() {
            boolean changes = false;
            for (int i = 0; i < YARDS; i++) {
                int open = firstOpen() < i ? 0 : loss[i];
                boolean gains = then[i] == 1 ? open < price[i] : price[i] < open;
                if (gains) {
                    then[i] = 1 - then[i];
                    changes = true;
                }
            }
            return changes;
        }

        private int firstOpen() {
            for (int i = 0; i < YARDS; i++) {
                if (then[i] == 0) {
                    return i;
                }
            }
            return YARDS;
        }

        int shutThen() {
            int bits = 0;
            for (int i = 0; i < YARDS; i++) {
                bits |= then[i] << i;
            }
            return bits;
        }
    }

    /** The BODIES that a VOICE runs through, and THE TRACE of them. */
    private static final class Voices {
        // Six stand open at the most, as a CLOCKED WAY tells; this is only a guard.
        private static final int DEEPEST = 40;
        final int[] trace = new int[MOST_BODIES];
        int traced = 0;
        private int kind = WAY;
        private int n = 0;
        private int m = 0;

        int speak(int kind, int n, int m, int act, int x) {
            this.kind = kind;
            this.n = n;
            this.m = m;
            traced = 0;
            switch (act) {
                case 0:
                    return tries(kind, x, 1);
                case 1:
                    return fears(kind, x, 1);
                case 2:
                    return shuts(kind, x, 1);
                default:
                    return tells(kind, x, 1);
            }
        }

        private void begin(int body) {
            if (traced < MOST_BODIES) {
                trace[traced] = body;
                traced++;
            }
        }

        /** The BODY of a KIND or the next above; so do the other three. */
        private int tries(int from, int x, int depth) {
            if (depth > DEEPEST) {
                return 0;
            }
            switch (from) {
                case SKIRTED:
                    begin(50);
                    return tries(DUG, x + 1, depth + 1);
                case DUG:
                    begin(30);
                    return tries(WAY, x, depth + 1) * 3;
                default:
                    begin(10);
                    return x + n;
            }
        }

        private int fears(int from, int x, int depth) {
            if (depth > DEEPEST) {
                return 0;
            }
            switch (from) {
                case CLOCKED:
                    begin(70);
                    return fears(DOOR, x, depth + 1) ^ n;
                case DOOR:
                    begin(20);
                    return fears(WAY, x, depth + 1) - shuts(kind, 1, depth + 1);
                default:
                    begin(11);
                    return tries(kind, x, depth + 1) * 2;
            }
        }

        private int shuts(int from, int x, int depth) {
            if (depth > DEEPEST) {
                return 0;
            }
            switch (from) {
                case LOOSE:
                case TORN:
                    begin(40);
                    return -shuts(WAY, x, depth + 1);
                default:
                    begin(12);
                    return x - m;
            }
        }

        private int tells(int from, int x, int depth) {
            if (depth > DEEPEST) {
                return 0;
            }
            switch (from) {
                case TORN:
                    begin(60);
                    return tells(LOOSE, x, depth + 1) - tries(kind, 2, depth + 1);
                case CLOCKED:
                    begin(71);
                    return fears(kind, x, depth + 1) - tells(DOOR, x, depth + 1);
                default:
                    begin(13);
                    return fears(kind, x, depth + 1) ^ shuts(kind, x, depth + 1);
            }
        }
    }

    /** A row of numbers of so many bits; missing with 0. */
    private static final class Sheet {
        int bits = 0;
        int length = 0;
        final int[] row = new int[MOST_NUMBERS];

        boolean isMissing() {
            return bits == 0;
        }

        void renew(int bits, int length) {
            this.bits = bits;
            this.length = Math.min(length, MOST_NUMBERS);
            for (int i = 0; i < MOST_NUMBERS; i++) {
                row[i] = 0;
            }
        }

        void change(int i, int v) {
            row[i] = bits == 8 ? (byte) v : bits == 16 ? (short) v : v;
        }

        /** Whether n numbers stand there from number i on. */
        boolean holds(int i, int n) {
            return i >= 0 && n >= 0 && n <= length && i <= length - n;
        }
    }
}
