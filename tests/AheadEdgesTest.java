/** The edges of promises 19 to 24 and of what the Terms say of AHEAD, FIRST LOSS, BY, MENDS and HANGS. */
public final class AheadEdgesTest {
    private static void due(String call, long got, long want) {
        Due.due(call, got, want);
    }

    private static FoxRounds house(String enters) {
        FoxRounds x = new FoxRounds();
        due("text of " + enters, Due.text(x, 0, enters), 1);
        return x;
    }

    private static void goTo(FoxRounds x, int night) {
        while (x.count(0) < night) {
            x.nights(Math.min(60, night - x.count(0)));
        }
    }

    private static void then() {
        Due.says(0, "AHEAD by n (0 to 60) NIGHTS: as if so many went by (beyond 999, too).");
        FoxRounds x = house("t>29");
        Due.text(x, 1, "3");
        x.way(0, 0, 0);
        x.set(0, 99);
        due("by 0", x.then(0, 0), 99);
        due("by 30", x.then(30, 1), 0);
        due("by 31", x.then(31, 1), 3);
        due("by 59", x.then(59, 1), 87);
        due("by 60", x.then(60, 0), 9);
        due("by 60", x.then(60, 1), 90);
        due("TONIGHT stays", x.count(0), 0);
        due("HENS stay", x.set(0, 99), 99);
        x = house("t=999|t=1000|t=1058");
        Due.text(x, 1, "1");
        x.way(0, 0, 0);
        goTo(x, 999);
        due("in NIGHT 999", x.then(1, 1), 1);
        due("in NIGHT 1000", x.then(2, 1), 2);
        due("up to NIGHT 1057", x.then(59, 1), 2);
        due("in NIGHT 1058", x.then(60, 1), 3);
        due("FIRST LOSS", x.loss(60), 1);
        due("TONIGHT stays", x.count(0), 999);
        Due.says(19, "what 0 HENS, 1 KILLED, 2 HUNGER, 3 BITE, 4 FEAR, 5 BOLD");
        x = new FoxRounds();
        int[] bare = {11, 0, 20, 0, 0, 25};
        int[] later = {11, 0, 99, 0, 0, 104};
        for (int what = 0; what < 6; what++) {
            due("by 0, what " + what, x.then(0, what), bare[what]);
            due("by 60, what " + what, x.then(60, what), later[what]);
        }
        x.thing(99, 1);
        x.hang(0, 1);
        x.bitten();
        int[] bitten = {11, 0, 20, 99, 198, 20 - 198 + 5};
        int[] fadedBy1 = {11, 0, 25, 96, 194, 25 - 194 + 5};
        for (int what = 0; what < 6; what++) {
            due("bitten, by 0, what " + what, x.then(0, what), bitten[what]);
            due("bitten, by 1, what " + what, x.then(1, what), fadedBy1[what]);
        }
    }

    private static void loss() {
        Due.says(0, "FIRST LOSS by n: behind how many NIGHTS KILLED is more for the first time (1 to n).");
        FoxRounds x = house("t=59");
        x.way(0, 0, 0);
        due("the sixtieth", x.loss(60), 60);
        due("by 59", x.loss(59), Due.NONE);
        x.nights(59);
        due("the first", x.loss(1), 1);
        due("the first by 60", x.loss(60), 1);
        x.nights(1);
        due("KILLED", x.count(3), 6);
        due("never again", x.loss(60), Due.NONE);
        Due.says(21, "NONE.");
        x = house("1");
        due("no WAYS", x.loss(60), Due.NONE);
        x.way(0, 0, 0);
        x.set(0, 0);
        due("no HENS", x.loss(60), Due.NONE);
        x.set(0, 1);
        due("one HEN", x.loss(60), 1);
        Due.text(x, 1, "h-1");
        due("of one HEN it kills none", x.loss(60), Due.NONE);
    }

    private static void by() {
        Due.says(0, "BY: the WAY by which it gets in tonight (-1: none).");
        FoxRounds x = house("1");
        due("no WAYS", x.by(), -1);
        for (int i = 0; i < 8; i++) {
            x.way(0, 0, 0);
        }
        due("the first", x.by(), 0);
        x.wear(7, 5, 1);
        due("the last", x.by(), 7);
        x.set(0, 0);
        due("no HENS", x.by(), -1);
        x.set(0, 1);
        x.wear(7, 1, 99);
        x.set(5, 60);
        due("the first takes too long", x.by(), -1);
        x.set(5, 69);
        due("it doesn't", x.by(), 7);
        Due.says(22, "`int by()`: BY.");
        due("MEMORY stays", x.ofWay(7, 5), 1);
        due("no ERROR", x.told(2), 0);
    }

    /** It gets in by a WAY whose STRONG is below 50; MENDED none is. */
    private static FoxRounds weak(int... costs) {
        FoxRounds x = house("e>49");
        for (int cost : costs) {
            x.way(0, 0, cost);
        }
        return x;
    }

    private static void mends() {
        Due.says(0, "MENDS for c (0 to 999) by n: of the sets of WAYS with COSTS together of c or less");
        FoxRounds x = new FoxRounds();
        due("no WAYS", x.mends(0, 60, 0), 0);
        due("no WAYS, HENS", x.mends(999, 60, 1), 11);
        x = weak(99, 99, 99, 99, 99, 99, 99, 99);
        due("all 8", x.mends(792, 1, 0), 255);
        due("all 8, HENS", x.mends(792, 1, 1), 11);
        due("all 8 for more", x.mends(999, 60, 0), 255);
        due("none for less", x.mends(791, 1, 0), 0);
        due("none for less, HENS", x.mends(791, 1, 1), 8);
        due("none for 0", x.mends(0, 1, 0), 0);
        x = weak(0, 0, 0);
        due("those of no COST", x.mends(0, 1, 0), 7);
        Due.says(0, "of several that of the least COST, then the least as bits");
        due("by 0 NIGHTS all are alike", x.mends(0, 0, 0), 0);
        due("by 0 NIGHTS, HENS", x.mends(0, 0, 1), 11);
        x = weak(3, 4);
        x.set(5, 60);
        // 20 minutes the first, 45 MENDED: then it doesn't come to the second.
        due("the first alone is enough", x.mends(999, 1, 0), 1);
        x = weak(4, 3);
        x.set(5, 60);
        due("the cheaper one isn't", x.mends(999, 1, 0), 1);
        x = house("e=49|e=48");
        x.way(0, 5000, 9);
        x.way(0, 5100, 9);
        x.set(5, 90);
        // By the first it gets in, MENDED (99) it takes 69 minutes: too long to try the second.
        due("the least as bits", x.mends(999, 1, 0), 1);
        x.way(0, 9900, 0);
        due("what doesn't matter isn't MENDED for nothing", x.mends(999, 1, 0), 1);
        x = house("(w>0)*(e<99)*9");
        x.way(0, 5000, 5);
        x.wear(0, 4, 1);
        due("WEAR is 0 of what is MENDED", x.mends(5, 1, 0), 1);
        due("too dear", x.mends(4, 1, 0), 0);
    }

    private static void mendsByMore() {
        Due.says(0, "most HENS are left AHEAD by n");
        // Both can't be paid: the one that is weaker kills from the first NIGHT on.
        FoxRounds x = house("e+t>79");
        x.way(0, 2000, 10);
        x.way(0, 5000, 10);
        x.set(0, 99);
        due("by 1", x.mends(10, 1, 0), 0);
        due("by 2", x.mends(10, 2, 0), 1);
        due("by 2, HENS", x.mends(10, 2, 1), 99);
        due("by 60", x.mends(20, 60, 0), 3);
        due("STRONG stays", x.ofWay(0, 1), 20);
        due("STRONG stays", x.ofWay(1, 1), 50);
    }

    private static FoxRounds frightened(int... frights) {
        FoxRounds x = new FoxRounds();
        for (int fright : frights) {
            x.thing(fright, 0);
        }
        x.way(0, 4000, 0);
        return x;
    }

    private static void hangs() {
        Due.says(0, "HANGS by n: the order (a row) of all THINGS that aren't hung up (4 at most)");
        FoxRounds x = frightened();
        due("no THINGS, HENS", x.hangs(0, -1), 11);
        due("no THINGS, HENS by 5", x.hangs(5, -1), 8);
        due("no THINGS, the first", x.hangs(5, 0), Due.NONE);
        x = frightened(7);
        due("one THING", x.hangs(60, 0), 0);
        due("no second", x.hangs(60, 1), Due.NONE);
        x.hang(0, 1);
        due("it is hung up", x.hangs(60, 0), Due.NONE);
        due("it is hung up, HENS by 5", x.hangs(5, -1), 11);
        x = frightened(1, 2, 3, 4);
        for (int i = 0; i < 4; i++) {
            due("by 0 NIGHTS the first row", x.hangs(0, i), i);
        }
        due("no fifth", x.hangs(0, 4), Due.NONE);
        Due.says(24, "STATE: more than 4 aren't hung up.");
        x.thing(5, 0);
        due("five", x.hangs(0, -1), Due.STATE);
        due("five", x.hangs(0, 0), Due.STATE);
        for (int up = 0; up < 5; up++) {
            x.hang(up, 1);
            for (int i = 0; i < 4; i++) {
                due("without " + up, x.hangs(0, i), i < up ? i : i + 1);
            }
            x.hang(up, 0);
        }
        for (int up = 0; up < 5; up++) {
            x.hang(up, 1);
            due("HENS with " + (up + 1) + " of five hung up", x.hangs(0, -1), 11);
            due("the last of the others, or HENS", x.hangs(0, 3 - up), up < 4 ? 4 : 11);
            due("no more", x.hangs(0, 4 - up), Due.NONE);
        }
    }

    private static void hangsOneEachNight() {
        Due.says(0, "one being hung up now, one each NIGHT on (n NIGHTS go by in all from now)");
        // FEAR must be above 8 in the first NIGHT, above 11 in the second: 9 and 3.
        FoxRounds x = new FoxRounds();
        Due.text(x, 0, "t=0&b>16|t=1&b>18|t=2&b>23");
        x.way(0, 0, 0);
        x.thing(1, 0);
        x.thing(9, 0);
        x.thing(3, 0);
        int[] row = {1, 2, 0};
        for (int i = 0; i < 3; i++) {
            due("the row by 3, " + i, x.hangs(3, i), row[i]);
        }
        due("HENS", x.hangs(3, -1), 11);
        due("by 1 only the first counts", x.hangs(1, 0), 1);
        due("by 1 the rest as it stands", x.hangs(1, 1), 0);
        due("by 1 the rest as it stands", x.hangs(1, 2), 2);
        due("none hung up", x.ofThing(0, 2) + x.ofThing(1, 2) + x.ofThing(2, 2), 0);
        Due.says(0, "of several the first as a row");
        x = frightened(9, 9, 9, 9);
        for (int i = 0; i < 4; i++) {
            due("all alike", x.hangs(60, i), i);
        }
        x = frightened(5, 50, 5, 50);
        x.set(2, 99);
        x.set(1, 1);
        // BOLD 104: only both of 50 hold it below 41.
        due("none is enough by 1", x.hangs(1, 0), 0);
        due("HENS by 1", x.hangs(1, -1), 5);
    }

    private static void thenWay() {
        Due.says(20, "AHEAD by n: of a WAY as by ofWay(). BEYOND.");
        FoxRounds x = house("0");
        x.set(5, 900);
        for (int i = 0; i < 8; i++) {
            x.way(3, 9007, 8);
        }
        int[] now = {3, 90, 7, 8, 0, 0, 9};
        int[] then = {3, 90, 7, 8, 60, 8, 309};
        for (int what = 0; what < 7; what++) {
            due("by 0, what " + what, x.thenWay(0, 7, what), now[what]);
        }
        x.set(2, 0);
        for (int what : new int[] {0, 1, 2, 3, 4, 6}) {
            due("by 60, what " + what, x.thenWay(60, 7, what), then[what]);
        }
        x.wear(7, 4, 40);
        due("WEAR 99 at most", x.thenWay(59, 7, 4), 99);
        due("WEAR 99 at most", x.thenWay(60, 7, 4), 99);
        due("MEMORY 9 at most", x.thenWay(60, 7, 5), 9);
        due("WEAR stays", x.ofWay(7, 4), 40);
    }

    public static void main(String[] args) {
        then();
        loss();
        by();
        mends();
        mendsByMore();
        hangs();
        hangsOneEachNight();
        thenWay();
        Due.end();
    }
}
