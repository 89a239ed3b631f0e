/** The edges of promises 17 and 18 and of what the Terms say of a NIGHT that goes by. */
public final class NightsEdgesTest {
    private static void due(String call, long got, long want) {
        Due.due(call, got, want);
    }

    /** An object with these ENTERS and KILLS. */
    private static FoxRounds house(String enters, String kills) {
        FoxRounds x = new FoxRounds();
        due("text of " + enters, Due.text(x, 0, enters), 1);
        due("text of " + kills, Due.text(x, 1, kills), 1);
        return x;
    }

    private static FoxRounds house(String enters) {
        return house(enters, "1");
    }

    private static void tonight() {
        Due.says(17, "n (1 to 60) NIGHTS go by: HENS.");
        FoxRounds x = new FoxRounds();
        due("one", x.nights(1), 11);
        due("TONIGHT", x.count(0), 1);
        due("sixty", x.nights(60), 11);
        due("TONIGHT", x.count(0), 61);
        Due.says(0, "NIGHTS are 0 to 999; TONIGHT is one");
        for (int i = 0; i < 15; i++) {
            x.nights(60);
        }
        due("TONIGHT", x.count(0), 961);
        Due.says(17, "STATE: TONIGHT would be above 999.");
        due("to 1000", x.nights(39), Due.STATE);
        due("TONIGHT", x.count(0), 961);
        due("to 999", x.nights(38), 11);
        due("TONIGHT", x.count(0), 999);
        due("one more", x.nights(1), Due.STATE);
        Due.says(18, "n (1 to 60) CARELESS NIGHTS (careless 0 to 100): HENS. BEYOND, STATE likewise.");
        due("one more", x.careless(1, 0), Due.STATE);
        x = new FoxRounds();
        for (int i = 0; i < 16; i++) {
            due("sixty", x.careless(60, 100), 11);
        }
        due("to 1000", x.careless(40, 0), Due.STATE);
        due("to 999", x.careless(39, 0), 11);
        due("TONIGHT", x.count(0), 999);
        int z = 1;
        for (int i = 0; i < 999; i++) {
            z = z * 1103515245 + 12345;
        }
        due("a draw each NIGHT", x.count(7), z);
        due("t in NIGHT 999", tonightEnters(x), 0);
    }

    private static int tonightEnters(FoxRounds x) {
        Due.text(x, 0, "t=999");
        x.way(0, 0, 0);
        return x.by();
    }

    private static void minutes() {
        Due.says(0, "each takes 20 minutes and STRONG by 2; it tries as long as what is taken together is LONG or less");
        // STRONG, and the least LONG that lets it try all three WAYS; 20 minutes and a half cut off each.
        int[][] rows = {{0, 60}, {1, 60}, {2, 63}, {3, 63}, {98, 207}, {99, 207}};
        for (int[] row : rows) {
            FoxRounds x = house("0");
            for (int i = 0; i < 3; i++) {
                x.way(0, 100 * row[0], 0);
            }
            x.set(5, row[1]);
            x.nights(1);
            due("all tried, STRONG " + row[0], x.ofWay(2, 4), 1);
            if (row[1] > 60) {
                x.set(5, row[1] - 1);
                x.nights(1);
                due("two tried, STRONG " + row[0], x.ofWay(1, 4), 2);
                due("not the third", x.ofWay(2, 4), 1);
            }
        }
        FoxRounds x = house("0");
        for (int i = 0; i < 8; i++) {
            x.way(0, 9900, 0);
        }
        x.set(5, 900);
        x.nights(1);
        due("the longest of nights is enough for 8 of the strongest", x.ofWay(7, 4), 1);
        x.set(5, 552);
        x.nights(1);
        due("552 minutes are, too", x.ofWay(7, 4), 2);
        x.set(5, 551);
        x.nights(1);
        due("551 aren't", x.ofWay(7, 4), 2);
        x = house("1");
        x.way(0, 9900, 0);
        x.way(0, 0, 0);
        x.set(5, 68);
        due("behind one that takes too long it tries none", x.nights(1), 11);
        due("neither", x.ofWay(0, 4) + x.ofWay(1, 4), 0);
        due("HUNGER is 5 more", x.set(2, 0), 25);
    }

    private static void order() {
        Due.says(0, "the fox tries WAYS in the order of their MEMORY, the most first, of like ones the least number");
        FoxRounds x = house("m=t+1");
        int[] memories = {3, 1, 4, 1, 5, 9, 2, 6};
        for (int i = 0; i < 8; i++) {
            x.way(0, 0, 0);
            x.wear(i, 5, memories[i]);
        }
        x.nights(1);
        due("it gets in by the first of MEMORY 1", x.ofWay(1, 5), 9);
        due("it hasn't tried the other", x.ofWay(3, 4), 0);
        for (int i : new int[] {0, 2, 4, 5, 6, 7}) {
            due("it has tried " + i, x.ofWay(i, 4), 1);
        }
        Due.says(0, "(all as it is as it comes)");
        x = house("0");
        x.set(2, 0);
        // Tried in vain 0 comes to 2, below 1; as it comes 0 is ahead of 1 all the same.
        x.way(0, 9900, 0);
        x.way(0, 0, 0);
        x.way(0, 0, 0);
        x.wear(0, 5, 3);
        x.wear(1, 5, 3);
        x.wear(2, 5, 2);
        x.set(5, 109);
        x.nights(1);
        due("0 tried", x.ofWay(0, 4), 1);
        due("1 tried", x.ofWay(1, 4), 1);
        due("2 tried", x.ofWay(2, 4), 1);
        due("MEMORY of 0", x.ofWay(0, 5), 2);
        due("MEMORY of 1", x.ofWay(1, 5), 4);
        Due.says(0, "it tries no more");
        x = house("1");
        x.way(0, 0, 0);
        x.way(0, 0, 0);
        x.nights(1);
        due("only the first", x.ofWay(0, 5), 9);
        due("not the second", x.ofWay(1, 5) + x.ofWay(1, 4), 0);
        due("one HEN", x.count(3), 1);
    }

    private static void enters() {
        Due.says(0, "it gets in, if ENTERS isn't 0 (by EASE, BOLD, MEMORY, WEAR as they are then)");
        String[] enters = {"0", "1", "0-1", "e-97", "b-25", "m-6", "w-7", "t-1", "e=98", "b=25", "m=6", "w=7", "t=0"};
        int[] dead = {0, 1, 1, 1, 0, 0, 0, 1, 1, 1, 1, 1, 1};
        for (int i = 0; i < enters.length; i++) {
            FoxRounds x = house(enters[i]);
            x.way(0, 100, 0);
            x.wear(0, 4, 7);
            x.wear(0, 5, 6);
            x.nights(1);
            due("KILLED by ENTERS " + enters[i], x.count(3), dead[i]);
        }
        // The second of two is tried with the BOLD of the first.
        FoxRounds x = house("w=0&e=99&b=25&m=0");
        x.way(0, 5000, 0);
        x.way(0, 0, 0);
        due("by the second", x.by(), 1);
    }

    /** HENS, HUNGER ahead and how many KILLS tells; HENS, KILLED, HUNGER behind it. */
    private static void kills(int hens, int hunger, String kills, int left, int killed, int hungry) {
        FoxRounds x = house("1", kills);
        x.way(0, 0, 0);
        x.set(0, hens);
        x.set(2, hunger);
        String call = kills + " of " + hens + " HENS, HUNGER " + hunger;
        due(call + ": HENS", x.nights(1), left);
        due(call + ": KILLED", x.count(3), killed);
        due(call + ": HUNGER", x.set(2, 0), hungry);
        due(call + ": MEMORY", x.ofWay(0, 5), hens > 0 ? 9 : 0);
        due(call + ": WEAR", x.ofWay(0, 4), 0);
    }

    private static void kills() {
        Due.says(0, "KILLS of HENS are dead (HENS are less; KILLED, 0 at first, is more by that)");
        kills(99, 99, "h", 0, 99, 0);
        kills(99, 99, "98", 1, 98, 0);
        kills(1, 50, "1", 0, 1, 40);
        Due.says(0, "held within 0 to HENS");
        kills(5, 99, "4", 1, 4, 59);
        kills(5, 99, "5", 0, 5, 49);
        kills(5, 99, "6", 0, 5, 49);
        kills(5, 99, "9999*9999", 0, 5, 49);
        kills(5, 99, "0", 5, 0, 99);
        kills(5, 99, "0-1", 5, 0, 99);
        kills(5, 98, "0-9999*9999", 5, 0, 98);
        Due.says(0, "HUNGER is less by 10 times these (0 at least)");
        kills(50, 29, "3", 47, 3, 0);
        kills(50, 30, "3", 47, 3, 0);
        kills(50, 31, "3", 47, 3, 1);
        kills(50, 0, "1", 49, 1, 0);
        Due.says(0, "(Without HENS it doesn't try; all else is so.)");
        kills(0, 30, "1", 0, 0, 35);
        FoxRounds x = house("1", "1");
        x.way(0, 0, 0);
        x.wear(0, 5, 4);
        x.thing(20, 5);
        x.hang(0, 1);
        x.set(0, 0);
        x.set(3, 60);
        x.set(4, 1);
        due("HENS", x.nights(1), 0);
        due("MEMORY", x.ofWay(0, 5), 4);
        due("WEAR", x.ofWay(0, 4), 0);
        due("FRIGHT", x.ofThing(0, 0), 15);
        due("BITE", x.set(3, 0), 58);
        due("FORGOTTEN", x.set(4, 0), 0);
        due("HUNGER", x.set(2, 0), 25);
        due("TONIGHT", x.count(0), 1);
    }

    private static void inVain(int strong, int hunger, int wear, int memory, int wearThen, int memoryThen) {
        FoxRounds x = house("0");
        x.way(0, 100 * strong, 0);
        x.set(2, hunger);
        x.wear(0, 4, wear);
        x.wear(0, 5, memory);
        x.nights(1);
        String call = "EASE " + (99 - strong) + ", BOLD " + (hunger + 5);
        due(call + ": WEAR " + wear, x.ofWay(0, 4), wearThen);
        due(call + ": MEMORY " + memory, x.ofWay(0, 5), memoryThen);
    }

    private static void inVain() {
        Due.says(0, "Else WEAR of that WAY is 1 more (99 at most)");
        inVain(0, 0, 0, 0, 1, 1);
        inVain(0, 0, 97, 0, 98, 1);
        inVain(0, 0, 98, 0, 99, 1);
        inVain(0, 0, 99, 0, 99, 1);
        Due.says(0, "MEMORY 1 more (9 at most), if EASE and BOLD together are 70 or more");
        inVain(34, 0, 0, 5, 1, 6);
        inVain(33, 0, 0, 5, 1, 6);
        inVain(34, 0, 0, 8, 1, 9);
        inVain(34, 0, 0, 9, 1, 9);
        Due.says(0, "else 1 less (0 at least)");
        inVain(35, 0, 0, 5, 1, 4);
        inVain(35, 0, 0, 1, 1, 0);
        inVain(35, 0, 0, 0, 1, 0);
        inVain(99, 0, 99, 9, 99, 8);
        FoxRounds x = house("0");
        x.way(2, 9999, 0);
        x.wear(0, 5, 9);
        x.bitten();
        x.nights(1);
        due("EASE and BOLD far below 0", x.ofWay(0, 5), 8);
    }

    private static void hunger(int hunger, String enters, int then) {
        FoxRounds x = house(enters, "0");
        x.way(0, 0, 0);
        x.set(2, hunger);
        x.nights(1);
        due("HUNGER " + hunger + " a NIGHT on", x.set(2, 0), then);
    }

    private static void hunger() {
        Due.says(0, "If it hasn't got in anywhere, HUNGER is 5 more (99 at most).");
        hunger(0, "0", 5);
        hunger(93, "0", 98);
        hunger(94, "0", 99);
        hunger(95, "0", 99);
        hunger(99, "0", 99);
        hunger(20, "1", 20);
        FoxRounds x = new FoxRounds();
        x.nights(1);
        due("without WAYS", x.set(2, 0), 25);
    }

    private static void fright(int fright, int fades, int then) {
        FoxRounds x = new FoxRounds();
        x.thing(fright, fades);
        x.thing(fright, fades);
        x.hang(1, 1);
        x.nights(1);
        due("FRIGHT " + fright + " less " + fades, x.ofThing(1, 0), then);
        due("of one that isn't hung up", x.ofThing(0, 0), fright);
        due("FADES stays", x.ofThing(1, 1), fades);
        due("it hangs still", x.ofThing(1, 2), 1);
    }

    private static void fright() {
        Due.says(0, "FRIGHT of each THING that is hung up is less by what it FADES (0 at least)");
        fright(0, 0, 0);
        fright(0, 30, 0);
        fright(99, 0, 99);
        fright(99, 30, 69);
        fright(29, 30, 0);
        fright(30, 30, 0);
        fright(31, 30, 1);
        FoxRounds x = new FoxRounds();
        for (int i = 0; i < 5; i++) {
            x.thing(50 + i, 10 + i);
            x.hang(i, 1);
        }
        x.nights(2);
        for (int i = 0; i < 5; i++) {
            due("FRIGHT of each", x.ofThing(i, 0), 30 - i);
        }
    }

    private static void bite(String stays, int bite, int then) {
        FoxRounds x = new FoxRounds();
        Due.text(x, 2, stays);
        x.set(3, bite);
        x.nights(1);
        due("BITE " + bite + " by " + stays, x.set(3, 0), then);
    }

    private static void bite() {
        Due.says(0, "BITE is what STAYS");
        bite("a", 99, 99);
        bite("a", 0, 0);
        bite("t", 50, 0);
        Due.says(0, "held within 0 to 99");
        bite("98", 5, 98);
        bite("99", 5, 99);
        bite("100", 5, 99);
        bite("9999*9999", 5, 99);
        bite("1", 5, 1);
        bite("0", 5, 0);
        bite("0-1", 5, 0);
        bite("0-9999*9999", 5, 0);
        Due.says(0, "FORGOTTEN is 0; TONIGHT is 1 more.");
        FoxRounds x = new FoxRounds();
        x.set(4, 1);
        x.nights(1);
        due("FORGOTTEN", x.set(4, 0), 0);
        due("TONIGHT", x.count(0), 1);
    }

    /** Whether a z makes it FORGOTTEN: whether it gets in by a DOOR that is shut else. */
    private static boolean forgets(int z, int careless) {
        FoxRounds x = new FoxRounds();
        x.way(1, 9900, 0);
        x.seed(z);
        x.careless(1, careless);
        return x.count(3) > 0;
    }

    private static int seedOfRest(int rest) {
        for (int z = 0; z < 100000; z++) {
            if ((z * 1103515245 + 12345 >>> 8) % 100 == rest) {
                return z;
            }
        }
        return 0;
    }

    private static void careless() {
        Due.says(0, "ahead of it FORGOTTEN is 1, if a draw's rest by 100 is below how careless one is");
        for (int rest : new int[] {0, 1, 50, 98, 99}) {
            int z = seedOfRest(rest);
            due("rest " + rest + ", careless " + rest, forgets(z, rest) ? 1 : 0, 0);
            due("rest " + rest + ", careless 1 more", forgets(z, rest + 1) ? 1 : 0, 1);
            due("rest " + rest + ", careless 0", forgets(z, 0) ? 1 : 0, 0);
            due("rest " + rest + ", careless 100", forgets(z, 100) ? 1 : 0, 1);
        }
        Due.says(0, "each makes it z * 1103515245 + 12345 (an int), and gives z >>> 8");
        for (int z : new int[] {0, 1, -1, 2, 77, Integer.MIN_VALUE, Integer.MAX_VALUE, 1945, -1999999999}) {
            FoxRounds x = new FoxRounds();
            x.seed(z);
            x.careless(1, 50);
            due("z from " + z, x.count(7), z * 1103515245 + 12345);
            int rest = (z * 1103515245 + 12345 >>> 8) % 100;
            due("draw from " + z, forgets(z, rest) ? 1 : 0, 0);
            due("draw from " + z, forgets(z, rest + 1) ? 1 : 0, 1);
        }
    }

    public static void main(String[] args) {
        tonight();
        minutes();
        order();
        enters();
        kills();
        inVain();
        hunger();
        fright();
        bite();
        careless();
        Due.end();
    }
}
