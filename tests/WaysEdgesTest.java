/** The edges of promises 1 to 13 and of what the Terms say of WAYS and THINGS. */
public final class WaysEdgesTest {
    private static void due(String call, long got, long want) {
        Due.due(call, got, want);
    }

    private static void aNewObject() {
        FoxRounds x = new FoxRounds();
        Due.says(1, "no WAYS, THINGS");
        due("WAYS", x.count(1), 0);
        due("THINGS", x.count(2), 0);
        Due.says(1, "a VILLAGE of yards with PRICES, LOSSES 0");
        Due.says(0, "shut (1) or open (0; at first)");
        for (int yard = 0; yard < 6; yard++) {
            // All ahead of it are shut: with a LOSS it would shut, too.
            due("LOSS of " + yard, x.village(1), (1 << yard) - 1);
            due("PRICE of " + yard, x.yard(yard, 0, 0, 1), 0);
        }
        Due.says(0, "or missing (as at first)");
        for (int sheet = 0; sheet < 4; sheet++) {
            due("SHEET " + sheet, x.hungry(sheet), Due.NONE);
        }
        Due.says(0, "TONIGHT is one (0 at first)");
        due("TONIGHT", x.count(0), 0);
        Due.says(0, "1080 at first");
        due("before dusk and LAG", x.harm(1099), 24);
        due("DUSK and LAG", x.harm(1100), 0);
        due("DUSK and EARLY", x.harm(1110), 0);
        due("behind it", x.harm(1111), 60);
        Due.says(0, "DRAWS: z is told (1 at first)");
        due("z", x.count(7), 1);
        Due.says(0, "held within 0 to HENS; without as that of f*3+(g>50)*3 would.");
        due("KILLS with g 50", x.law(1, 99, 1, 50), 3);
        due("KILLS with g 51", x.law(1, 99, 1, 51), 6);
        Due.says(0, "without a TEXT as that of e+b>99 would give");
        due("ENTERS with 99", x.law(0, 0, 99, 0), 0);
        due("ENTERS with 100", x.law(0, 100, 0, 0), 1);
        due("ENTERS far below", x.law(0, -50, -60, 0), 0);
        Due.says(0, "without as that of a-a/30 would");
        due("STAYS of 29", x.law(2, 29, 0, 0), 29);
        due("STAYS of 30", x.law(2, 30, 0, 0), 29);
        due("STAYS of 59", x.law(2, 59, 0, 0), 58);
        due("STAYS of 60", x.law(2, 60, 0, 0), 58);
    }

    private static void range(int what, int least, int greatest, int first) {
        FoxRounds x = new FoxRounds();
        due("to the least", x.set(what, least), first);
        due("to below the least", x.set(what, least - 1), Due.BEYOND);
        due("to the greatest", x.set(what, greatest), least);
        due("to above the greatest", x.set(what, greatest + 1), Due.BEYOND);
        due("back to first", x.set(what, first), greatest);
        due("is first", x.set(what, least), first);
    }

    private static void ranges() {
        Due.says(0, "HENS (0 to 99; 11 at first)");
        range(0, 0, 99, 11);
        Due.says(0, "FOXES (1 to 4; 1 at first)");
        range(1, 1, 4, 1);
        Due.says(0, "HUNGER (0 to 99; 20 at first)");
        range(2, 0, 99, 20);
        Due.says(0, "BITE (0 to 99; 0 at first)");
        range(3, 0, 99, 0);
        Due.says(0, "FORGOTTEN (0, 1: the door tonight; 0 at first)");
        range(4, 0, 1, 0);
        Due.says(0, "LONG (60 to 900 minutes of a night; 480 at first)");
        range(5, 60, 900, 480);
        Due.says(0, "LAG (0 to 120; 20 at first)");
        range(6, 0, 120, 20);
        Due.says(0, "EARLY (-120 to 240; 30 at first)");
        range(7, -120, 240, 30);
    }

    /** Each stands apart from the others. */
    private static void set() {
        Due.says(2, "becomes v: what it was");
        FoxRounds x = new FoxRounds();
        int[] least = {0, 1, 0, 0, 0, 60, 0, -120};
        int[] greatest = {99, 4, 99, 99, 1, 900, 120, 240};
        int[] first = {11, 1, 20, 0, 0, 480, 20, 30};
        for (int what = 0; what < 8; what++) {
            due("the greatest of " + what, x.set(what, greatest[what]), first[what]);
        }
        for (int what = 7; what >= 0; what--) {
            due("the least of " + what, x.set(what, least[what]), greatest[what]);
        }
        for (int what = 0; what < 8; what++) {
            due("back to first " + what, x.set(what, first[what]), least[what]);
        }
    }

    private static void sm() {
        FoxRounds x = new FoxRounds();
        Due.says(3, "sm: 100 * STRONG, and m.");
        int[] sms = {0, 1, 99, 100, 101, 9899, 9900, 9999};
        for (int i = 0; i < 8; i++) {
            due("number", x.way(0, sms[i], i == 7 ? 99 : 0), i);
            due("STRONG of " + sms[i], x.ofWay(i, 1), sms[i] / 100);
            due("m of " + sms[i], x.ofWay(i, 2), sms[i] % 100);
            due("COST", x.ofWay(i, 3), i == 7 ? 99 : 0);
            due("EASE", x.ofWay(i, 6), 99 - sms[i] / 100);
        }
        Due.says(0, "WEAR (0 to 99; 0 at first), MEMORY (0 to 9; 0 at first)");
        for (int i = 0; i < 8; i++) {
            due("WEAR", x.ofWay(i, 4), 0);
            due("MEMORY", x.ofWay(i, 5), 0);
        }
        Due.says(0, "WAYS in 0, 1, .. (at most 8)");
        due("a ninth", x.way(0, 0, 0), Due.FULL);
        due("WAYS", x.count(1), 8);
        for (int i = 0; i < 8; i++) {
            due("STRONG still of " + sms[i], x.ofWay(i, 1), sms[i] / 100);
        }
    }

    private static void easesAtTheirEdges() {
        FoxRounds x = new FoxRounds();
        for (int kind = 0; kind < 7; kind++) {
            x.way(kind, 99, 0);
            x.wear(kind, 4, 99);
        }
        x.set(0, 0);
        Due.says(0, "as WAY, and 3 times WEAR, less 20 in MONTHS 0, 1, 11");
        due("DUG, weakest and most worn", x.ofWay(2, 6), 99 + 297 - 20);
        Due.says(0, "LOOSE: as WAY, and 5 times WEAR.");
        due("LOOSE, weakest and most worn", x.ofWay(3, 6), 99 + 495);
        Due.says(0, "SKIRTED: as DUG, less m.");
        due("SKIRTED, weakest and most worn", x.ofWay(4, 6), 99 + 297 - 20 - 99);
        Due.says(0, "TORN: as LOOSE, and m.");
        due("TORN, weakest and most worn", x.ofWay(5, 6), 99 + 495 + 99);
        Due.says(0, "DOOR: as WAY, 99 if FORGOTTEN is 1.");
        for (int kind = 0; kind < 7; kind++) {
            x.wear(kind, 1, 99);
            x.wear(kind, 4, 0);
        }
        due("DOOR, strongest", x.ofWay(1, 6), 0);
        x.set(4, 1);
        due("DOOR, forgotten", x.ofWay(1, 6), 99);
        due("WAY, forgotten", x.ofWay(0, 6), 0);
        due("DUG, strongest", x.ofWay(2, 6), -20);
        due("SKIRTED, strongest", x.ofWay(4, 6), -20 - 99);
        due("CLOCKED, forgotten", x.ofWay(6, 6), 99);
        for (int i = 0; i < 3; i++) {
            x.nights(50);
        }
        Due.says(0, "CLOCKED: as DOOR, less m in MONTHS 5, 6, 7.");
        due("CLOCKED, strongest", x.ofWay(6, 6), -99);
    }

    /** EASES of a DUG and a CLOCKED WAY in a NIGHT; the first is 50 less frost, the other 50 less clock. */
    private static void month(FoxRounds x, int night, int month) {
        while (x.count(0) < night) {
            x.nights(Math.min(60, night - x.count(0)));
        }
        boolean frost = month == 0 || month == 1 || month == 11;
        boolean clock = month >= 5 && month <= 7;
        due("DUG in NIGHT " + night, x.ofWay(0, 6), frost ? 30 : 50);
        due("CLOCKED in NIGHT " + night, x.ofWay(1, 6), clock ? 43 : 50);
    }

    private static void months() {
        Due.says(0, "MONTH: TONIGHT by 30, the rest by 12.");
        FoxRounds x = new FoxRounds();
        x.set(0, 0);
        x.way(2, 4900, 0);
        x.way(6, 4907, 0);
        for (int month = 0; month <= 33; month++) {
            month(x, 30 * month, month % 12);
            if (month < 33) {
                month(x, 30 * month + 29, month % 12);
            }
        }
        month(x, 999, 9);
        Due.says(0, "(beyond 999, too)");
        due("NIGHT 1049, MONTH 10", x.thenWay(50, 0, 6), 50);
        due("NIGHT 1050, MONTH 11", x.thenWay(51, 0, 6), 30);
        due("NIGHT 1059, MONTH 11", x.thenWay(60, 0, 6), 30);
    }

    private static void wear() {
        Due.says(5, "STRONG (what 1), WEAR (4), MEMORY (5) of a WAY becomes v: what it was.");
        FoxRounds x = new FoxRounds();
        x.way(3, 5512, 7);
        int[] greatest = {0, 99, 0, 0, 99, 9};
        for (int what : new int[] {1, 4, 5}) {
            int was = x.ofWay(0, what);
            due("to the least", x.wear(0, what, 0), was);
            due("is the least", x.ofWay(0, what), 0);
            due("to the greatest", x.wear(0, what, greatest[what]), 0);
            due("is the greatest", x.ofWay(0, what), greatest[what]);
        }
        due("KIND stays", x.ofWay(0, 0), 3);
        due("m stays", x.ofWay(0, 2), 12);
        due("COST stays", x.ofWay(0, 3), 7);
    }

    private static void as() {
        Due.says(6, "KIND: it isn't of that KIND, nor of one under it.");
        int[] above = {-1, 0, 0, 0, 2, 3, 1};
        FoxRounds x = new FoxRounds();
        for (int kind = 0; kind < 7; kind++) {
            x.way(kind, 100 * kind, 0);
            for (int as = 0; as < 7; as++) {
                boolean is = as == kind || as == 0 || as == above[kind];
                due(kind + " as " + as, x.as(kind, as), is ? kind : Due.KIND);
            }
        }
        Due.says(4, "Of a WAY: 0 KIND, 1 STRONG, 2 m, 3 COST, 4 WEAR, 5 MEMORY, 6 EASE.");
        for (int kind = 0; kind < 7; kind++) {
            due("KIND", x.ofWay(kind, 0), kind);
        }
    }

    private static FoxRounds withSheet(int bits, int... numbers) {
        FoxRounds x = new FoxRounds();
        x.sheet(0, bits, numbers.length);
        for (int i = 0; i < numbers.length; i++) {
            x.put(0, i, numbers[i]);
        }
        return x;
    }

    private static void ways() {
        Due.says(7, "up to the first that isn't as told, or isn't whole, or has no room: how many came");
        due("of 0 numbers", withSheet(32).ways(0), 0);
        due("of 1", withSheet(32, 0).ways(0), 0);
        due("of 2", withSheet(32, 0, 0).ways(0), 0);
        due("of 3", withSheet(32, 0, 0, 0).ways(0), 1);
        due("of 4", withSheet(32, 0, 0, 0, 0).ways(0), 1);
        due("of 5", withSheet(32, 0, 0, 0, 0, 0).ways(0), 1);
        due("of 6", withSheet(32, 0, 0, 0, 6, 9999, 99).ways(0), 2);
        int[][] bad = {{-1, 0, 0}, {7, 0, 0}, {0, -1, 0}, {0, 10000, 0}, {0, 0, -1}, {0, 0, 100}};
        for (int[] b : bad) {
            FoxRounds x = withSheet(32, 1, 2, 3, b[0], b[1], b[2], 4, 5, 6);
            due("up to the one that isn't as told", x.ways(0), 1);
            due("WAYS", x.count(1), 1);
            due("COST of it", x.ofWay(0, 3), 3);
            due("no ERROR", x.told(1), 0);
        }
        Due.says(7, "threes (KIND, sm, COST), from number 0 on");
        FoxRounds x = withSheet(8, new int[40]);
        due("of 40 numbers, all 0", x.ways(0), 8);
        due("WAYS", x.count(1), 8);
        due("again: no room", x.ways(0), 0);
        due("no ERROR", x.told(4), 0);
        x = withSheet(8, new int[6]);
        for (int i = 0; i < 7; i++) {
            x.way(1, 0, 0);
        }
        due("room for one", x.ways(0), 1);
        due("it is the last", x.ofWay(7, 0), 0);
    }

    private static void mend() {
        Due.says(0, "MENDED: STRONG of a WAY is 50 more (99 at most), WEAR is 0.");
        FoxRounds x = new FoxRounds();
        x.way(3, 0, 0);
        int[] strongs = {0, 48, 49, 50, 99};
        int[] mended = {50, 98, 99, 99, 99};
        for (int i = 0; i < 5; i++) {
            x.wear(0, 1, strongs[i]);
            x.wear(0, 4, 99);
            due("mend() from " + strongs[i], x.mend(0), mended[i]);
            due("STRONG", x.ofWay(0, 1), mended[i]);
            due("WEAR", x.ofWay(0, 4), 0);
        }
    }

    private static void things() {
        FoxRounds x = new FoxRounds();
        Due.says(9, "A THING: its number.");
        due("the least", x.thing(0, 0), 0);
        due("the greatest", x.thing(99, 30), 1);
        due("FRIGHT 0", x.ofThing(0, 0), 0);
        due("FADES 0", x.ofThing(0, 1), 0);
        due("FRIGHT 99", x.ofThing(1, 0), 99);
        due("FADES 30", x.ofThing(1, 1), 30);
        Due.says(0, "hung up (1) or not (0; at first)");
        due("not hung up", x.ofThing(1, 2), 0);
        Due.says(11, "A THING is hung up (1), or not (0): what it was.");
        due("hung down as it is", x.hang(1, 0), 0);
        due("hung up", x.hang(1, 1), 0);
        due("hung up", x.hang(1, 1), 1);
        due("the other isn't", x.ofThing(0, 2), 0);
        Due.says(0, "THINGS that frighten 0, 1, .. (at most 5)");
        for (int i = 2; i < 5; i++) {
            due("one more", x.thing(i, i), i);
        }
        due("a sixth", x.thing(0, 0), Due.FULL);
        due("THINGS", x.count(2), 5);
        due("the fifth", x.ofThing(4, 0), 4);
    }

    private static void bold() {
        Due.says(13, "BOLD (any number).");
        FoxRounds x = new FoxRounds();
        x.set(2, 99);
        x.set(1, 4);
        due("the greatest", x.bold(), 119);
        x.set(2, 0);
        x.set(1, 1);
        x.bitten();
        due("with a BITE", x.bold(), 5 - 99);
        for (int i = 0; i < 5; i++) {
            x.thing(99, 0);
            due("not hung up", x.bold(), 5 - 99 - 99 * i);
            x.hang(i, 1);
            due("hung up", x.bold(), 5 - 99 - 99 * (i + 1));
        }
        due("no ERROR", x.told(1), 0);
        Due.says(12, "BITE is 99: what it was.");
        due("bitten() again", x.bitten(), 99);
        due("BITE", x.set(3, 0), 99);
        due("bitten() from 0", x.bitten(), 0);
    }

    public static void main(String[] args) {
        aNewObject();
        ranges();
        set();
        as();
        sm();
        easesAtTheirEdges();
        months();
        wear();
        ways();
        mend();
        things();
        bold();
        Due.end();
    }
}
