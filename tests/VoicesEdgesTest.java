/** The edges of promises 33 to 35: z, ints that go round, THE TRACE. */
public final class VoicesEdgesTest {
    private static final int MIN = Integer.MIN_VALUE;
    private static final int MAX = Integer.MAX_VALUE;

    private static void due(String call, long got, long want) {
        Due.due(call, got, want);
    }

    private static FoxRounds house(int m) {
        FoxRounds x = new FoxRounds();
        for (int kind = 0; kind < 7; kind++) {
            x.way(kind, m, 0);
        }
        return x;
    }

    private static void seed() {
        Due.says(33, "z becomes v: what it was (any number).");
        FoxRounds x = new FoxRounds();
        int was = 1;
        for (int v : new int[] {MIN, MAX, 0, -1, Due.BEYOND, Due.KIND, Due.LOW, 1}) {
            due("seed(" + v + ")", x.seed(v), was);
            due("z", x.count(7), v);
            was = v;
        }
        for (int k = 1; k <= 5; k++) {
            due("no ERROR", x.told(k), 0);
        }
    }

    private static void goRound() {
        Due.says(0, "VOICES of a WAY, with a number x (ints that go round)");
        FoxRounds x = house(99);
        due("10 tries", x.voice(0, 0, MAX), MAX);
        x = new FoxRounds();
        x.way(0, 0, 0);
        x.way(0, 99, 0);
        x.way(2, 0, 0);
        x.way(1, 1, 0);
        x.way(3, 0, 0);
        x.way(4, 0, 0);
        x.way(5, 99, 0);
        x.way(6, 99, 0);
        due("10 tries: x + n", x.voice(1, 0, MAX), MIN);
        due("11 fears: tries(x) * 2", x.voice(0, 1, MIN), 0);
        due("11 fears: tries(x) * 2", x.voice(0, 1, MAX), -2);
        due("12 shuts: x - m", x.voice(1, 2, MIN + 98), MAX);
        due("13 tells", x.voice(1, 3, MAX), 0 ^ MAX - 99);
        due("20 fears", x.voice(3, 1, MAX), (MAX + 3) * 2);
        due("20 fears", x.voice(3, 1, MAX / 2 - 2), MIN);
        due("30 tries: * 3", x.voice(2, 0, MAX), (MAX + 2) * 3);
        due("40 shuts: -MIN", x.voice(4, 2, MIN), MIN);
        due("40 shuts", x.voice(6, 2, MIN + 99), MIN);
        due("50 tries: x + 1", x.voice(5, 0, MAX), (MAX + 6) * 3);
        due("60 tells", x.voice(6, 3, MIN), (6 * 2 ^ -(MIN - 99)) - 8);
        due("70 fears", x.voice(7, 1, MIN), (7 * 2 - (1 - 99)) ^ 7);
        int fears = (MIN + 7) * 2 + 98 ^ 7;
        due("71 tells", x.voice(7, 3, MIN), fears - (fears ^ MIN - 99));
        Due.says(34, "A VOICE of a WAY: any number.");
        due("below the ERRORS", x.voice(0, 0, Due.BEYOND), Due.BEYOND);
        due("no ERROR", x.told(1), 0);
    }

    private static void m() {
        Due.says(0, "n is its number, m as told");
        FoxRounds x = house(99);
        for (int way = 0; way < 7; way++) {
            boolean loose = way == 3 || way == 5;
            due("shuts of m 99", x.voice(way, 2, 0), loose ? 99 : -99);
        }
        x = house(0);
        for (int way = 0; way < 7; way++) {
            due("shuts of m 0", x.voice(way, 2, 0), 0);
        }
        x = new FoxRounds();
        for (int way = 0; way < 8; way++) {
            x.way(0, 0, 0);
            due("tries of n " + way, x.voice(way, 0, 0), way);
        }
    }

    private static void trace() {
        Due.says(35, "THE TRACE's i-th. NONE: there is none such.");
        FoxRounds x = house(0);
        due("no TRACE", x.trace(0), Due.NONE);
        due("no TRACE", x.count(6), 0);
        Due.says(0, "the numbers of BODIES of the latest voice(), as they began");
        int[] lengths = {1, 2, 1, 4, 1, 4, 1, 6, 2, 3, 1, 5, 1, 2, 2, 5, 3, 4, 1, 6, 1, 2, 2, 7, 1, 5, 1, 13};
        for (int way = 0; way < 7; way++) {
            for (int act = 0; act < 4; act++) {
                int length = lengths[4 * way + act];
                x.voice(way, act, 1);
                due("BODIES of " + way + ", " + act, x.count(6), length);
                due("the last is there", x.trace(length - 1) > 0 ? 1 : 0, 1);
                due("none behind it", x.trace(length), Due.NONE);
                due("none at 39", x.trace(39), Due.NONE);
                due("none at 40", x.trace(40), Due.NONE);
                due("none ahead of it", x.trace(-1), Due.NONE);
                due("the first is there", x.trace(0) > 0 ? 1 : 0, 1);
            }
        }
        // The longest of all TRACES has 13 BODIES: the first 40 are always all.
        Due.says(0, "as they began (what stands left is worked out first), the first 40.");
        x.voice(6, 3, 1);
        int[] bodies = {71, 70, 20, 11, 10, 12, 13, 70, 20, 11, 10, 12, 12};
        for (int i = 0; i < 13; i++) {
            due("the longest", x.trace(i), bodies[i]);
        }
        x.voice(0, 2, 1);
        due("the latest alone", x.trace(1), Due.NONE);
        due("the latest", x.trace(0), 12);
    }

    public static void main(String[] args) {
        seed();
        goRound();
        m();
        trace();
        Due.end();
    }
}
