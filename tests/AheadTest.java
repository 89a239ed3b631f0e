/** Promises 19 to 24: AHEAD, FIRST LOSS, BY, MENDS, HANGS. */
public final class AheadTest {
    private static final int BEYOND = Due.BEYOND;

    private static void due(String call, long got, long want) {
        Due.due(call, got, want);
    }

    /** EASE 59: it gets in as BOLD is 41, the fifth NIGHT at first. */
    private static FoxRounds house() {
        FoxRounds x = new FoxRounds();
        x.way(0, 4000, 0);
        return x;
    }

    private static void then() {
        FoxRounds x = house();
        x.thing(12, 5);
        x.hang(0, 1);
        x.set(3, 60);
        int[] now = {11, 0, 20, 60, 72, -47};
        int[] next = {11, 0, 25, 58, 65, -35};
        for (int what = 0; what < 6; what++) {
            due("19: now " + what, x.then(0, what), now[what]);
            due("19: a NIGHT on " + what, x.then(1, what), next[what]);
        }
        due("19: nothing changes", x.count(0), 0);
        due("19: nothing changes", x.ofThing(0, 0), 12);
        due("19: nothing changes", x.ofWay(0, 4), 0);
        due("19: nothing changes", x.set(3, 0), 60);
        x.hang(0, 0);
        due("19: before it gets in", x.then(4, 0), 11);
        due("19: as it gets in", x.then(5, 0), 8);
        due("19: KILLED", x.then(5, 1), 3);
        due("19: HUNGER", x.then(5, 2), 10);
        due("19: again", x.then(12, 1), 6);
        x.nights(5);
        due("19: KILLED in all", x.then(7, 1), 6);
        due("19: n -1", x.then(-1, 0), BEYOND);
        due("19: n 61", x.then(61, 0), BEYOND);
        due("19: what -1", x.then(0, -1), BEYOND);
        due("19: what 6", x.then(0, 6), BEYOND);
        for (int i = 0; i < 16; i++) {
            x.nights(60);
        }
        x.nights(34);
        x.set(0, 99);
        x.set(2, 0);
        due("19: TONIGHT", x.count(0), 999);
        due("19: beyond 999", x.then(7, 2), 35);
    }

    private static void thenWay() {
        FoxRounds x = house();
        x.way(2, 9905, 7);
        due("20: now", x.thenWay(0, 1, 6), -20);
        int[] parts = {2, 99, 5, 7, 3, 0, -11};
        for (int what = 0; what < 7; what++) {
            due("20: what " + what, x.thenWay(3, 1, what), parts[what]);
        }
        due("20: MEMORY", x.thenWay(3, 0, 5), 3);
        due("20: it got in", x.thenWay(5, 0, 5), 9);
        due("20: nothing changes", x.ofWay(0, 5), 0);
        x.set(0, 0);
        due("20: EASE in MONTH 1", x.thenWay(59, 1, 6), -20);
        due("20: EASE in MONTH 2", x.thenWay(60, 1, 6), 0);
        due("20: n -1", x.thenWay(-1, 0, 0), BEYOND);
        due("20: n 61", x.thenWay(61, 0, 0), BEYOND);
        due("20: way -1", x.thenWay(0, -1, 0), BEYOND);
        due("20: way 2", x.thenWay(0, 2, 0), BEYOND);
        due("20: what -1", x.thenWay(0, 0, -1), BEYOND);
        due("20: what 7", x.thenWay(0, 0, 7), BEYOND);
    }

    private static void loss() {
        FoxRounds x = house();
        due("21: n 60", x.loss(60), 5);
        due("21: n 5", x.loss(5), 5);
        due("21: n 4", x.loss(4), Due.NONE);
        due("21: n 0", x.loss(0), BEYOND);
        due("21: n 61", x.loss(61), BEYOND);
        x.nights(5);
        due("21: more than now", x.loss(60), 7);
        x.nights(6);
        due("21: tonight", x.loss(1), 1);
        Due.text(x, 1, "0");
        due("21: it gets in and kills none", x.loss(60), Due.NONE);
    }

    private static void by() {
        FoxRounds x = house();
        due("22: none", x.by(), -1);
        x.set(2, 31);
        due("22: tomorrow", x.by(), -1);
        x.set(2, 36);
        due("22: not tomorrow", x.by(), 0);
        x.set(2, 20);
        x.way(0, 0, 0);
        due("22: by 1", x.by(), 1);
        x.set(2, 99);
        due("22: by 0", x.by(), 0);
        Due.text(x, 1, "0");
        due("22: it kills none", x.by(), 0);
        x.set(0, 0);
        due("22: without HENS", x.by(), -1);
        due("22: nothing changes", x.count(0), 0);
    }

    private static void mends() {
        FoxRounds x = house();
        due("23: n 0", x.mends(999, 0, 0), 0);
        due("23: HENS now", x.mends(999, 0, 1), 11);
        due("23: by 4", x.mends(0, 4, 1), 11);
        due("23: of no COST", x.mends(0, 5, 0), 1);
        x.wear(0, 1, 0);
        x.set(2, 46);
        due("23: MENDED, too", x.mends(0, 1, 1), 8);
        x = new FoxRounds();
        x.way(0, 4000, 10);
        due("23: by 4", x.mends(9, 4, 1), 11);
        due("23: by 5", x.mends(9, 5, 1), 8);
        x.way(0, 4500, 10);
        x.set(2, 50);
        due("23: both", x.mends(20, 1, 0), 3);
        due("23: both, HENS", x.mends(20, 1, 1), 11);
        due("23: too dear", x.mends(19, 1, 0), 0);
        due("23: too dear, HENS", x.mends(19, 1, 1), 8);
        due("23: nothing changes", x.ofWay(0, 1), 40);
        due("23: c -1", x.mends(-1, 1, 0), BEYOND);
        due("23: c 1000", x.mends(1000, 1, 0), BEYOND);
        due("23: n -1", x.mends(0, -1, 0), BEYOND);
        due("23: n 61", x.mends(0, 61, 0), BEYOND);
        due("23: what -1", x.mends(0, 0, -1), BEYOND);
        due("23: what 2", x.mends(0, 0, 2), BEYOND);
        mendsOfLikeHens(7, 5, 2);
        mendsOfLikeHens(5, 7, 1);
        mendsOfLikeHens(5, 5, 1);
        mendsOfLikeHens(9, 9, 1);
        mendsOfLikeHens(15, 14, 4);
    }

    /** Any of the three takes so long, MENDED, that it doesn't get in by 2, or 2 is too strong. */
    private static void mendsOfLikeHens(int cost0, int cost1, int set) {
        FoxRounds x = new FoxRounds();
        Due.text(x, 0, "e=99");
        x.set(5, 60);
        x.way(5, 1, cost0);
        x.way(5, 1, cost1);
        x.way(0, 0, 9);
        due("23: of like HENS the least COST", x.mends(999, 1, 0), set);
        due("23: HENS", x.mends(999, 1, 1), 11);
        due("23: too dear", x.mends(4, 1, 0), 0);
    }

    private static void hangs() {
        FoxRounds x = house();
        due("24: no THINGS", x.hangs(5, -1), 8);
        due("24: no THINGS", x.hangs(5, 0), Due.NONE);
        x.thing(10, 0);
        x.thing(40, 0);
        x.set(2, 50);
        due("24: HENS", x.hangs(2, -1), 11);
        due("24: the first", x.hangs(2, 0), 1);
        due("24: the second", x.hangs(2, 1), 0);
        due("24: no third", x.hangs(2, 2), Due.NONE);
        due("24: n 0", x.hangs(0, 0), 0);
        due("24: n 0, HENS", x.hangs(0, -1), 11);
        due("24: nothing changes", x.ofThing(0, 2) + x.ofThing(1, 2), 0);
        due("24: n -1", x.hangs(-1, 0), BEYOND);
        due("24: n 61", x.hangs(61, 0), BEYOND);
        due("24: i -2", x.hangs(0, -2), BEYOND);
        due("24: i far off", x.hangs(0, Integer.MIN_VALUE), BEYOND);
        due("24: i far off", x.hangs(0, Integer.MAX_VALUE), Due.NONE);
        x.hang(1, 1);
        due("24: only those that aren't", x.hangs(1, 0), 0);
        due("24: only those that aren't", x.hangs(1, 1), Due.NONE);
        x.hang(1, 0);
        x.thing(0, 0);
        due("24: of three", x.hangs(2, 0), 1);
        due("24: of three", x.hangs(2, 1), 0);
        due("24: of three", x.hangs(2, 2), 2);
        x.thing(0, 0);
        due("24: of several the first", x.hangs(2, 0), 1);
        due("24: of several the first", x.hangs(2, 1), 0);
        due("24: of several the first", x.hangs(2, 2), 2);
        due("24: of several the first", x.hangs(2, 3), 3);
        x.thing(0, 0);
        due("24: five", x.hangs(2, 0), Due.STATE);
        due("24: five", x.hangs(2, -1), Due.STATE);
        due("24: STATE ahead of NONE", x.hangs(2, 5), Due.STATE);
        due("24: BEYOND ahead of STATE", x.hangs(2, -2), BEYOND);
        x.hang(3, 1);
        due("24: four again", x.hangs(2, 3), 4);
    }

    private static void theLastOrder() {
        FoxRounds x = new FoxRounds();
        // FEAR must come to 3, 5, 6, 6: FRIGHTS of 3, 2, 1, 0.
        Due.text(x, 0, "!(t=0&b=17|t=1&b=20|t=2&b=24|t=3&b=29)");
        x.way(0, 9900, 0);
        for (int fright = 0; fright < 4; fright++) {
            x.thing(fright, 0);
        }
        x.set(2, 15);
        for (int i = 0; i < 4; i++) {
            due("24: the last row of all", x.hangs(4, i), 3 - i);
        }
        due("24: HENS", x.hangs(4, -1), 11);
    }

    /** It must be frightened the second NIGHT by what fades fast: hung up first that would be gone. */
    private static void oneEachNight() {
        FoxRounds x = new FoxRounds();
        Due.text(x, 0, "t=1&b>0-10");
        x.way(0, 4000, 0);
        x.thing(40, 30);
        x.thing(0, 0);
        // BOLD of the second NIGHT is 30 less FEAR: 40 if hung up then, 10 if hung up now.
        due("24: one each NIGHT on", x.hangs(2, 0), 1);
        due("24: one each NIGHT on", x.hangs(2, 1), 0);
        due("24: HENS", x.hangs(2, -1), 11);
        due("24: one NIGHT", x.hangs(1, 0), 0);
    }

    public static void main(String[] args) {
        then();
        thenWay();
        loss();
        by();
        mends();
        hangs();
        theLastOrder();
        oneEachNight();
        Due.end();
    }
}
