/** Promises 17 and 18: NIGHTS that go by. */
public final class NightsTest {
    private static final int BEYOND = Due.BEYOND;

    private static void due(String call, long got, long want) {
        Due.due(call, got, want);
    }

    /** An object with these ENTERS and WAYS of KIND 0 with these STRONGS. */
    private static FoxRounds house(String enters, int... strongs) {
        FoxRounds x = new FoxRounds();
        due("a text", Due.text(x, 0, enters), 1);
        for (int strong : strongs) {
            x.way(0, 100 * strong, 0);
        }
        return x;
    }

    private static void wears(String what, FoxRounds x, int... wears) {
        for (int w = 0; w < wears.length; w++) {
            due("17: " + what + ", WEAR of " + w, x.ofWay(w, 4), wears[w]);
        }
    }

    private static void arguments() {
        FoxRounds x = new FoxRounds();
        due("17: n 0", x.nights(0), BEYOND);
        due("17: n 61", x.nights(61), BEYOND);
        due("17: n -1", x.nights(-1), BEYOND);
        due("17: n far off", x.nights(Integer.MAX_VALUE), BEYOND);
        due("18: n 0", x.careless(0, 0), BEYOND);
        due("18: n 61", x.careless(61, 0), BEYOND);
        due("18: careless -1", x.careless(1, -1), BEYOND);
        due("18: careless 101", x.careless(1, 101), BEYOND);
        due("17: none went by", x.count(0), 0);
        due("18: none drawn", x.count(7), 1);
        for (int i = 1; i <= 16; i++) {
            due("17: sixty more", x.nights(60), 11);
            due("17: TONIGHT", x.count(0), 60 * i);
        }
        due("17: to 1000", x.nights(40), Due.STATE);
        due("18: to 1000", x.careless(40, 0), Due.STATE);
        due("17: to 998", x.nights(38), 11);
        due("18: to 999", x.careless(1, 0), 11);
        due("17: no more", x.nights(1), Due.STATE);
        due("18: no more", x.careless(1, 100), Due.STATE);
        due("17: BEYOND ahead of STATE", x.nights(61), BEYOND);
        due("18: BEYOND ahead of STATE", x.careless(1, 101), BEYOND);
        due("17: TONIGHT", x.count(0), 999);
        due("17: HUNGER", x.set(2, 0), 99);
        due("18: draws", x.count(7), 1103515245 + 12345);
    }

    private static void minutes() {
        FoxRounds x = house("0", 40, 41, 0);
        x.set(5, 60);
        x.nights(1);
        wears("40 of 60 minutes", x, 1, 0, 0);
        x.wear(0, 5, 0);
        x.set(5, 79);
        x.nights(1);
        wears("40 of 79 minutes", x, 2, 0, 0);
        x.wear(0, 5, 0);
        x.set(5, 80);
        x.nights(1);
        wears("80 of 80 minutes", x, 3, 1, 0);
        x = house("0", 99, 0);
        x.set(5, 68);
        x.nights(1);
        wears("the first takes 69 minutes", x, 0, 0);
        x.set(5, 69);
        x.nights(1);
        wears("the first takes all", x, 1, 0);
    }

    private static void order() {
        FoxRounds x = house("0", 20, 20, 20);
        x.set(5, 60);
        x.wear(0, 5, 1);
        x.wear(1, 5, 3);
        x.wear(2, 5, 3);
        x.nights(1);
        wears("the most MEMORY first", x, 0, 1, 1);
        due("17: MEMORY of 0", x.ofWay(0, 5), 1);
        due("17: MEMORY of 1", x.ofWay(1, 5), 4);
        due("17: MEMORY of 2", x.ofWay(2, 5), 4);
        x.wear(0, 5, 4);
        x.nights(1);
        wears("the least number first", x, 1, 2, 1);
        x = house("1", 90, 90, 90);
        x.wear(2, 5, 1);
        due("17: HENS", x.nights(1), 8);
        due("17: it got in by 2", x.ofWay(2, 5), 9);
        due("17: not by 0", x.ofWay(0, 5), 0);
    }

    private static void aTryInVain() {
        FoxRounds x = house("0", 54, 55);
        x.wear(0, 5, 5);
        x.wear(1, 5, 5);
        x.wear(0, 4, 98);
        x.nights(1);
        due("17: EASE and BOLD are 70", x.ofWay(0, 5), 6);
        due("17: EASE and BOLD are 69", x.ofWay(1, 5), 4);
        wears("1 more", x, 99, 1);
        due("17: HUNGER", x.set(2, 20), 25);
        x.wear(0, 5, 9);
        x.wear(1, 5, 0);
        x.nights(1);
        due("17: MEMORY 9 at most", x.ofWay(0, 5), 9);
        due("17: MEMORY 0 at least", x.ofWay(1, 5), 0);
        wears("99 at most", x, 99, 2);
        // A LOOSE WAY's EASE of the try is that ahead of the WEAR by it.
        x = house("0");
        x.way(3, 5500, 0);
        x.wear(0, 5, 5);
        x.nights(1);
        due("17: EASE as it is at the try", x.ofWay(0, 5), 4);
    }

    private static void itGetsIn() {
        FoxRounds x = house("m=3&w=2&t=0", 10, 20, 30);
        x.wear(0, 5, 4);
        x.wear(1, 5, 3);
        x.wear(1, 4, 2);
        due("17: HENS", x.nights(1), 8);
        wears("only the one ahead", x, 1, 2, 0);
        due("17: MEMORY of the one ahead", x.ofWay(0, 5), 5);
        due("17: MEMORY of it", x.ofWay(1, 5), 9);
        due("17: MEMORY of the one behind", x.ofWay(2, 5), 0);
        due("17: KILLED", x.count(3), 3);
        due("17: HUNGER", x.set(2, 45), 0);
        x.wear(1, 5, 3);
        due("17: another NIGHT, t isn't 0", x.nights(1), 8);
        due("15: only e and b", Due.text(x, 0, "e+b=139"), 1);
        // EASE 89 of WAY 0, BOLD 50 + 5
        due("17: e+b is 144", x.nights(1), 8);
        x.set(2, 45);
        due("17: e+b is 139", x.nights(1), 5);
        due("17: KILLED", x.count(3), 6);
        due("17: HUNGER is 30 less", x.set(2, 51), 15);
        x.set(1, 2);
        Due.text(x, 0, "1");
        due("17: of 5 HENS none is left", x.nights(1), 0);
        due("17: KILLED", x.count(3), 11);
        due("17: HUNGER is 50 less", x.set(2, 97), 1);
        wears("ahead", x, 3, 4, 2);
        due("17: without HENS", x.nights(1), 0);
        wears("it doesn't try", x, 3, 4, 2);
        due("17: HUNGER is 99 at most", x.set(2, 0), 99);
    }

    private static void itGetsInForNothing() {
        FoxRounds x = house("1", 50, 50);
        Due.text(x, 1, "0-5");
        due("17: HENS", x.nights(1), 11);
        due("17: HUNGER stays", x.set(2, 20), 20);
        due("17: MEMORY", x.ofWay(0, 5), 9);
        wears("neither", x, 0, 0);
        Due.text(x, 1, "h*10+f+g");
        due("17: all dead", x.nights(1), 0);
    }

    private static void killsByItsNames() {
        FoxRounds x = house("1", 50);
        x.set(0, 90);
        x.set(1, 3);
        x.set(2, 7);
        Due.text(x, 1, "h/10+f*2+g");
        due("17: 9 and 6 and 7", x.nights(1), 68);
    }

    private static void whatWearsOff() {
        FoxRounds x = new FoxRounds();
        x.thing(30, 20);
        x.thing(30, 20);
        x.hang(0, 1);
        x.set(3, 60);
        x.set(4, 1);
        x.nights(1);
        due("17: FRIGHT of the one hung up", x.ofThing(0, 0), 10);
        due("17: FRIGHT of the other", x.ofThing(1, 0), 30);
        due("17: BITE", x.set(3, 29), 58);
        due("17: FORGOTTEN", x.set(4, 0), 0);
        x.nights(1);
        due("17: FRIGHT is 0 at least", x.ofThing(0, 0), 0);
        due("17: BITE below 30 stays", x.set(3, 29), 29);
        Due.text(x, 2, "t*10+a");
        x.nights(1);
        due("17: STAYS by the TONIGHT that ends", x.set(3, 99), 49);
        x.nights(1);
        due("17: BITE is 99 at most", x.set(3, 0), 99);
    }

    private static void forgotten() {
        FoxRounds x = new FoxRounds();
        x.way(1, 9900, 0);
        x.set(4, 1);
        due("17: through the DOOR", x.nights(2), 8);
        due("17: MEMORY goes", x.ofWay(0, 5), 8);
    }

    private static void careless() {
        FoxRounds x = new FoxRounds();
        x.way(1, 9900, 0);
        // The first draw is 1103527590 >>> 8 = 4310654.
        due("18: careless 54", x.careless(1, 54), 11);
        due("18: z", x.count(7), 1103527590);
        x.seed(1);
        due("18: careless 55", x.careless(1, 55), 8);
        x.seed(1);
        due("18: careless 0", x.careless(1, 0), 8);
        x.set(4, 1);
        due("18: forgotten all the same", x.careless(1, 0), 5);
        x.seed(-7);
        int z = -7;
        for (int i = 0; i < 60; i++) {
            z = z * 1103515245 + 12345;
        }
        due("18: careless 100", x.careless(60, 100), 0);
        due("18: a draw each NIGHT", x.count(7), z);
        due("18: TONIGHT", x.count(0), 64);
        due("18: KILLED", x.count(3), 11);
    }

    public static void main(String[] args) {
        arguments();
        minutes();
        order();
        aTryInVain();
        itGetsIn();
        itGetsInForNothing();
        killsByItsNames();
        whatWearsOff();
        forgotten();
        careless();
        Due.end();
    }
}
