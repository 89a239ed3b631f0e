/** Promises 1 to 13: a new object, single numbers, WAYS and THINGS. */
public final class WaysTest {
    private static final int BEYOND = Due.BEYOND;

    private static void due(String call, long got, long want) {
        Due.due(call, got, want);
    }

    private static void aNewObject() {
        FoxRounds x = new FoxRounds();
        int[] counts = {0, 0, 0, 0, 0, 0, 0, 1};
        for (int i = 0; i < 8; i++) {
            due("1: count(" + i + ")", x.count(i), counts[i]);
        }
        for (int k = 1; k <= 5; k++) {
            due("1: told(" + k + ")", x.told(k), 0);
        }
        int[] first = {11, 1, 20, 0, 0, 480, 20, 30};
        for (int i = 0; i < 8; i++) {
            due("1: set(" + i + ")", x.set(i, first[i]), first[i]);
        }
        for (int i = 0; i < 12; i++) {
            due("1: dusk(" + i + ")", x.dusk(i, 1080), 1080);
        }
        due("1: village(0)", x.village(0), 1);
        due("1: village(1)", x.village(1), 0);
        // A LOSS at first would make this yard shut at a PRICE of 0.
        due("1: yard(0)", x.yard(0, 0, 0, 0), 0);
        due("1: village(1) again", x.village(1), 0);
        for (int i = 0; i < 4; i++) {
            due("1: off(" + i + ")", x.off(i), Due.NONE);
        }
        due("1: trace(0)", x.trace(0), Due.NONE);
        due("1: restore()", x.restore(), Due.NONE);
        due("1: check()", x.check(), 0);
        due("1: ofWay(0, 0)", x.ofWay(0, 0), BEYOND);
        due("1: ofThing(0, 0)", x.ofThing(0, 0), BEYOND);
        due("1: then(0, 4)", x.then(0, 4), 0);
    }

    private static void set() {
        int[] low = {0, 1, 0, 0, 0, 60, 0, -120};
        int[] high = {99, 4, 99, 99, 1, 900, 120, 240};
        int[] was = {11, 1, 20, 0, 0, 480, 20, 30};
        FoxRounds x = new FoxRounds();
        for (int i = 0; i < 8; i++) {
            due("2: to the highest", x.set(i, high[i]), was[i]);
            due("2: above it", x.set(i, high[i] + 1), BEYOND);
            due("2: to the lowest", x.set(i, low[i]), high[i]);
            due("2: below it", x.set(i, low[i] - 1), BEYOND);
            due("2: far off", x.set(i, Integer.MAX_VALUE), BEYOND);
            due("2: nothing changed", x.set(i, low[i]), low[i]);
        }
        due("2: what -1", x.set(-1, 1), BEYOND);
        due("2: what 8", x.set(8, 1), BEYOND);
        due("2: what far off", x.set(Integer.MIN_VALUE, 1), BEYOND);
        due("2: told", x.told(1), 27);
    }

    private static void way() {
        FoxRounds x = new FoxRounds();
        due("3: kind -1", x.way(-1, 0, 0), BEYOND);
        due("3: kind 7", x.way(7, 0, 0), BEYOND);
        due("3: sm -1", x.way(0, -1, 0), BEYOND);
        due("3: sm 10000", x.way(0, 10000, 0), BEYOND);
        due("3: cost -1", x.way(0, 0, -1), BEYOND);
        due("3: cost 100", x.way(0, 0, 100), BEYOND);
        due("3: none came", x.count(1), 0);
        for (int i = 0; i < 7; i++) {
            due("3: number " + i, x.way(i, 9900 + i, 99), i);
        }
        due("3: the eighth", x.way(3, 1234, 56), 7);
        due("3: the ninth", x.way(0, 0, 0), Due.FULL);
        due("3: BEYOND ahead of FULL", x.way(0, 0, 100), BEYOND);
        due("3: how many", x.count(1), 8);
        int[] parts = {3, 12, 34, 56, 0, 0};
        for (int i = 0; i < 6; i++) {
            due("3: part " + i, x.ofWay(7, i), parts[i]);
        }
    }

    private static FoxRounds allKinds() {
        FoxRounds x = new FoxRounds();
        x.set(0, 0);
        for (int kind = 0; kind < 7; kind++) {
            x.way(kind, 5007, 1);
            x.wear(kind, 4, 4);
        }
        return x;
    }

    private static void eases(String when, FoxRounds x, int... eases) {
        for (int kind = 0; kind < 7; kind++) {
            due("4: EASE of KIND " + kind + " " + when, x.ofWay(kind, 6), eases[kind]);
        }
    }

    private static void goTo(FoxRounds x, int night) {
        for (int i = x.count(0); i < night; i++) {
            x.nights(1);
        }
        due("4: TONIGHT", x.count(0), night);
    }

    private static void ofWay() {
        FoxRounds x = allKinds();
        eases("at first", x, 49, 49, 41, 69, 34, 76, 49);
        x.set(4, 1);
        eases("forgotten", x, 49, 99, 41, 69, 34, 76, 99);
        goTo(x, 59);
        eases("in MONTH 1", x, 49, 49, 41, 69, 34, 76, 49);
        goTo(x, 60);
        eases("in MONTH 2", x, 49, 49, 61, 69, 54, 76, 49);
        goTo(x, 149);
        eases("in MONTH 4", x, 49, 49, 61, 69, 54, 76, 49);
        goTo(x, 150);
        eases("in MONTH 5", x, 49, 49, 61, 69, 54, 76, 42);
        x = allKinds();
        for (int i = 0; i < 4; i++) {
            x.nights(59);
        }
        goTo(x, 239);
        x.set(4, 1);
        eases("in MONTH 7, forgotten", x, 49, 99, 61, 69, 54, 76, 92);
        goTo(x, 240);
        eases("in MONTH 8", x, 49, 49, 61, 69, 54, 76, 49);
        x.nights(60);
        goTo(x, 329);
        eases("in MONTH 10", x, 49, 49, 61, 69, 54, 76, 49);
        x.nights(1);
        eases("in MONTH 11", x, 49, 49, 41, 69, 34, 76, 49);
        x.nights(30);
        eases("in MONTH 0 again", x, 49, 49, 41, 69, 34, 76, 49);
        due("4: way -1", x.ofWay(-1, 0), BEYOND);
        due("4: way 7", x.ofWay(7, 0), BEYOND);
        due("4: what -1", x.ofWay(0, -1), BEYOND);
        due("4: what 7", x.ofWay(0, 7), BEYOND);
    }

    private static void wear() {
        FoxRounds x = new FoxRounds();
        x.way(2, 4321, 9);
        due("5: STRONG", x.wear(0, 1, 99), 43);
        due("5: STRONG above", x.wear(0, 1, 100), BEYOND);
        due("5: STRONG to 0", x.wear(0, 1, 0), 99);
        due("5: WEAR", x.wear(0, 4, 99), 0);
        due("5: WEAR above", x.wear(0, 4, 100), BEYOND);
        due("5: WEAR below", x.wear(0, 4, -1), BEYOND);
        due("5: WEAR again", x.wear(0, 4, 5), 99);
        due("5: MEMORY", x.wear(0, 5, 9), 0);
        due("5: MEMORY above", x.wear(0, 5, 10), BEYOND);
        due("5: MEMORY below", x.wear(0, 5, -1), BEYOND);
        due("5: MEMORY again", x.wear(0, 5, 0), 9);
        for (int what : new int[] {-1, 0, 2, 3, 6, 7}) {
            due("5: what " + what, x.wear(0, what, 1), BEYOND);
        }
        due("5: no such way", x.wear(1, 1, 1), BEYOND);
        due("5: way -1", x.wear(-1, 1, 1), BEYOND);
        int[] parts = {2, 0, 21, 9, 5, 0};
        for (int i = 0; i < 6; i++) {
            due("5: part " + i, x.ofWay(0, i), parts[i]);
        }
    }

    private static void as() {
        FoxRounds x = new FoxRounds();
        int[] above = {-1, 0, 0, 0, 2, 3, 1};
        for (int kind = 0; kind < 7; kind++) {
            x.way(kind, 100 * (kind + 10), 0);
            for (int as = 0; as < 7; as++) {
                boolean is = as == kind || as == 0 || as == above[kind];
                due("6: " + kind + " as " + as, x.as(kind, as), is ? kind + 10 : Due.KIND);
            }
        }
        due("6: kind -1", x.as(0, -1), BEYOND);
        due("6: kind 7", x.as(0, 7), BEYOND);
        due("6: way -1", x.as(-1, 0), BEYOND);
        due("6: way 7", x.as(7, 0), BEYOND);
    }

    private static void fill(FoxRounds x, int sheet, int bits, int... numbers) {
        x.sheet(sheet, bits, numbers.length);
        for (int i = 0; i < numbers.length; i++) {
            x.put(sheet, i, numbers[i]);
        }
    }

    private static void ways() {
        FoxRounds x = new FoxRounds();
        due("7: sheet -1", x.ways(-1), BEYOND);
        due("7: sheet 4", x.ways(4), BEYOND);
        due("7: missing", x.ways(0), Due.NONE);
        fill(x, 0, 16);
        due("7: of nothing", x.ways(0), 0);
        fill(x, 0, 16, 1, 4711);
        due("7: not whole", x.ways(0), 0);
        fill(x, 0, 16, 6, 9999, 99, 2, 1203, 5, 1, 2);
        due("7: two and a part", x.ways(0), 2);
        due("7: KIND", x.ofWay(0, 0), 6);
        due("7: STRONG", x.ofWay(1, 1), 12);
        due("7: m", x.ofWay(1, 2), 3);
        due("7: COST", x.ofWay(1, 3), 5);
        fill(x, 1, 32, 0, 0, 0, 0, 10000, 0, 0, 0, 0);
        due("7: sm isn't as told", x.ways(1), 1);
        fill(x, 1, 32, 7, 0, 0);
        due("7: KIND isn't as told", x.ways(1), 0);
        fill(x, 1, 32, 0, 0, 100);
        due("7: COST isn't as told", x.ways(1), 0);
        fill(x, 2, 8, 1, 127, 3);
        due("7: of 8 bits", x.ways(2), 1);
        due("7: m of 8 bits", x.ofWay(3, 2), 27);
        fill(x, 2, 8, 1, 128, 3);
        due("7: 8 bits have a sign", x.ways(2), 0);
        fill(x, 3, 32, 0, 0, 1, 0, 0, 2, 0, 0, 3, 0, 0, 4, 0, 0, 5);
        due("7: no more room", x.ways(3), 4);
        due("7: full", x.ways(3), 0);
        due("7: the last", x.ofWay(7, 3), 4);
    }

    private static void mend() {
        FoxRounds x = new FoxRounds();
        x.way(3, 4811, 5);
        x.wear(0, 4, 33);
        x.wear(0, 5, 3);
        due("8: 50 more", x.mend(0), 98);
        due("8: WEAR", x.ofWay(0, 4), 0);
        due("8: MEMORY stays", x.ofWay(0, 5), 3);
        due("8: held at 99", x.mend(0), 99);
        due("8: from 0", x.wear(0, 1, 0) + x.mend(0), 99 + 50);
        due("8: no such way", x.mend(1), BEYOND);
        due("8: way -1", x.mend(-1), BEYOND);
    }

    private static void thing() {
        FoxRounds x = new FoxRounds();
        due("9: FRIGHT -1", x.thing(-1, 0), BEYOND);
        due("9: FRIGHT 100", x.thing(100, 0), BEYOND);
        due("9: FADES -1", x.thing(0, -1), BEYOND);
        due("9: FADES 31", x.thing(0, 31), BEYOND);
        for (int i = 0; i < 5; i++) {
            due("9: number " + i, x.thing(99 - i, 30 - i), i);
        }
        due("9: the sixth", x.thing(0, 0), Due.FULL);
        due("9: BEYOND ahead of FULL", x.thing(0, 31), BEYOND);
        due("9: how many", x.count(2), 5);
        due("10: FRIGHT", x.ofThing(1, 0), 98);
        due("10: FADES", x.ofThing(1, 1), 29);
        due("10: not hung up", x.ofThing(1, 2), 0);
        due("10: what 3", x.ofThing(1, 3), BEYOND);
        due("10: what -1", x.ofThing(1, -1), BEYOND);
        due("10: thing 5", x.ofThing(5, 0), BEYOND);
        due("10: thing -1", x.ofThing(-1, 0), BEYOND);
    }

    private static void hang() {
        FoxRounds x = new FoxRounds();
        x.thing(30, 0);
        x.thing(12, 0);
        due("11: up", x.hang(1, 1), 0);
        due("10: hung up", x.ofThing(1, 2), 1);
        due("11: up again", x.hang(1, 1), 1);
        due("11: is 2", x.hang(1, 2), BEYOND);
        due("11: is -1", x.hang(1, -1), BEYOND);
        due("11: thing 2", x.hang(2, 1), BEYOND);
        due("11: thing -1", x.hang(-1, 1), BEYOND);
        due("13: 20 - 12 + 5", x.bold(), 13);
        due("11: down", x.hang(1, 0), 1);
        due("13: 20 + 5", x.bold(), 25);
    }

    private static void bittenAndBold() {
        FoxRounds x = new FoxRounds();
        due("12: bitten()", x.bitten(), 0);
        due("12: bitten() again", x.bitten(), 99);
        due("12: BITE", x.set(3, 7), 99);
        due("13: 20 - 7 + 5", x.bold(), 18);
        x.set(1, 4);
        due("13: 20 - 7 + 20", x.bold(), 33);
        x.set(2, 0);
        for (int i = 0; i < 5; i++) {
            x.thing(99, 0);
            x.hang(i, 1);
        }
        x.set(3, 99);
        x.set(1, 1);
        due("13: 0 - 594 + 5", x.bold(), -589);
    }

    public static void main(String[] args) {
        aNewObject();
        set();
        way();
        ofWay();
        wear();
        as();
        ways();
        mend();
        thing();
        hang();
        bittenAndBold();
        Due.end();
    }
}
