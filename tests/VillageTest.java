/** Promises 25 to 32: the door's clock, odds, the village, signs. */
public final class VillageTest {
    private static final int BEYOND = Due.BEYOND;

    private static void due(String call, long got, long want) {
        Due.due(call, got, want);
    }

    private static void dusk() {
        FoxRounds x = new FoxRounds();
        for (int month = 0; month < 12; month++) {
            due("25: to 0", x.dusk(month, 0), 1080);
            due("25: to 1439", x.dusk(month, 1439), 0);
            due("25: again", x.dusk(month, 100 + month), 1439);
        }
        due("25: month -1", x.dusk(-1, 0), BEYOND);
        due("25: month 12", x.dusk(12, 0), BEYOND);
        due("25: v -1", x.dusk(0, -1), BEYOND);
        due("25: v 1440", x.dusk(0, 1440), BEYOND);
        due("25: nothing changed", x.dusk(0, 0), 100);
    }

    private static void harm() {
        FoxRounds x = new FoxRounds();
        due("26: -1", x.harm(-1), BEYOND);
        due("26: 1440", x.harm(1440), BEYOND);
        due("26: 0", x.harm(0), 24);
        due("26: 1099", x.harm(1099), 24);
        due("26: 1100", x.harm(1100), 0);
        due("26: 1110", x.harm(1110), 0);
        due("26: 1111", x.harm(1111), 60);
        due("26: 1439", x.harm(1439), 60);
        due("27: the earliest", x.clock(), 1100);
        x.dusk(11, 900);
        due("26: a fox in one MONTH", x.harm(1100), 5);
        due("26: a hen in eleven", x.harm(930), 22);
        due("26: both", x.harm(931), 27);
        due("27: still", x.clock(), 1100);
        for (int month = 0; month < 5; month++) {
            x.dusk(month, 900);
        }
        due("26: a hen in six", x.harm(920), 12);
        due("27: now earlier", x.clock(), 920);
        x.set(6, 120);
        x.set(7, -120);
        due("27: none suits", x.clock(), 0);
        x = new FoxRounds();
        for (int month = 0; month < 12; month++) {
            x.dusk(month, 1439);
        }
        due("26: never in by midnight", x.harm(1439), 24);
        due("27: all alike", x.clock(), 0);
        x.set(6, 0);
        due("27: the last MINUTE", x.clock(), 1439);
        due("26: the last MINUTE", x.harm(1439), 0);
        for (int month = 0; month < 12; month++) {
            x.dusk(month, 0);
        }
        x.set(7, 0);
        due("27: the first MINUTE", x.clock(), 0);
        for (int month = 0; month < 12; month++) {
            x.dusk(month, 1);
        }
        due("27: the second MINUTE", x.clock(), 1);
        x.set(7, -120);
        due("26: a fox all day", x.harm(1), 60);
    }

    private static void odds(int pq, int n, long above, long below) {
        FoxRounds x = new FoxRounds();
        due("28: odds(" + pq + ", " + n + ", 0)", x.odds(pq, n, 0), above);
        due("28: odds(" + pq + ", " + n + ", 1)", x.odds(pq, n, 1), below);
    }

    private static void odds() {
        odds(29, 2, 49, 81);
        odds(36, 3, 1, 8);
        odds(69, 2, 1, 9);
        odds(28, 12, 531441, 16777216);
        odds(19, 12, 68719476736L, 282429536481L);
        odds(1, 12, 1, 1);
        odds(11, 1, 0, 1);
        odds(11, 0, 1, 1);
        odds(99, 0, 1, 1);
        odds(99, 12, 0, 1);
        odds(45, 1, 1, 5);
        FoxRounds x = new FoxRounds();
        for (int pq : new int[] {0, 10, 90, -1, -10, -11, 21, 98, 100, 101, 109, 119, Integer.MIN_VALUE, Integer.MAX_VALUE}) {
            due("28: pq " + pq, x.odds(pq, 1, 0), BEYOND);
        }
        due("28: n -1", x.odds(12, -1, 0), BEYOND);
        due("28: n 13", x.odds(12, 13, 0), BEYOND);
        due("28: part -1", x.odds(12, 1, -1), BEYOND);
        due("28: part 2", x.odds(12, 1, 2), BEYOND);
        due("28: told", x.told(1), 18);
    }

    private static void yard() {
        FoxRounds x = new FoxRounds();
        due("29: its PRICE ahead", x.yard(5, 99, 99, 1), 0);
        due("29: its PRICE ahead", x.yard(5, 0, 0, 0), 99);
        due("29: yard -1", x.yard(-1, 0, 0, 0), BEYOND);
        due("29: yard 6", x.yard(6, 0, 0, 0), BEYOND);
        due("29: price -1", x.yard(0, -1, 0, 0), BEYOND);
        due("29: price 100", x.yard(0, 100, 0, 0), BEYOND);
        due("29: loss -1", x.yard(0, 0, -1, 0), BEYOND);
        due("29: loss 100", x.yard(0, 0, 100, 0), BEYOND);
        due("29: shut -1", x.yard(0, 0, 0, -1), BEYOND);
        due("29: shut 2", x.yard(0, 0, 0, 2), BEYOND);
        due("29: nothing changed", x.yard(0, 0, 0, 0), 0);
    }

    private static void village(int rounds, int shut, int... yards) {
        FoxRounds x = new FoxRounds();
        for (int i = 0; i < 18; i += 3) {
            x.yard(i / 3, yards[i], yards[i + 1], yards[i + 2]);
        }
        due("30: rounds", x.village(0), rounds);
        due("30: shut", x.village(1), shut);
        due("30: nothing changes", x.village(0), rounds);
    }

    private static void village() {
        // Each pays less by shutting, as the fox comes to it in turn.
        village(2, 63, 1, 2, 0, 1, 2, 0, 1, 2, 0, 1, 2, 0, 1, 2, 0, 1, 2, 0);
        // The first stays open, the fox goes there.
        village(1, 0, 2, 2, 0, 1, 2, 0, 1, 2, 0, 1, 2, 0, 1, 2, 0, 1, 2, 0);
        village(2, 0, 2, 1, 1, 1, 2, 1, 1, 2, 1, 1, 2, 1, 1, 2, 1, 1, 2, 1);
        // Shut for as much as it would lose, or for nothing: it stays.
        village(1, 1, 2, 2, 1, 9, 9, 0, 0, 0, 0, 0, 0, 0, 0, 0, 0, 0, 0, 0);
        village(1, 63, 0, 9, 1, 0, 9, 1, 0, 9, 1, 0, 9, 1, 0, 9, 1, 0, 9, 1);
        // The third opens, as the second is open; the fifth stays shut for nothing.
        village(2, 17, 3, 9, 0, 9, 8, 0, 1, 99, 1, 5, 99, 0, 0, 99, 1, 9, 99, 0);
        FoxRounds x = new FoxRounds();
        due("30: what -1", x.village(-1), BEYOND);
        due("30: what 2", x.village(2), BEYOND);
    }

    private static void put(FoxRounds x, int sheet, int bits, int... numbers) {
        x.sheet(sheet, bits, numbers.length);
        for (int i = 0; i < numbers.length; i++) {
            x.put(sheet, i, numbers[i]);
        }
    }

    private static void signs() {
        FoxRounds x = new FoxRounds();
        // EASE 59: it gets in as HUNGER is 36, the fifth NIGHT and the twelfth.
        x.way(0, 4000, 0);
        due("31: sheet -1", x.off(-1), BEYOND);
        due("31: sheet 4", x.off(4), BEYOND);
        due("31: missing", x.off(3), Due.NONE);
        due("32: sheet -1", x.hungry(-1), BEYOND);
        due("32: sheet 4", x.hungry(4), BEYOND);
        due("32: missing", x.hungry(3), Due.NONE);
        put(x, 0, 8);
        due("31: of nothing", x.off(0), 0);
        due("32: of nothing", x.hungry(0), 0);
        put(x, 0, 8, 11, 11, 11, 11, 8, 8, 8, 8, 8, 8, 8, 5);
        due("31: as it comes", x.off(0), 0);
        put(x, 0, 16, 11, 13, 9, 11, 7);
        due("31: 2 and 2 and 1", x.off(0), 5);
        put(x, 0, 32, 1010, 1011, 1012, -989, -993);
        due("31: held at 1000", x.off(0), 999 + 1000 + 1000 + 1000 + 1000);
        put(x, 0, 32, Integer.MIN_VALUE, Integer.MAX_VALUE);
        due("31: far off", x.off(0), 2000);
        put(x, 0, 8, 200, 11);
        due("31: 8 bits have a sign", x.off(0), 67);
        put(x, 0, 16, 65535);
        due("31: 16 bits have a sign", x.off(0), 12);
        put(x, 0, 8, 11, 11, 8);
        due("32: HUNGER 26 to 30", x.hungry(0), 26);
        due("32: nothing changes", x.set(2, 26), 20);
        due("31: by that", x.off(0), 0);
        put(x, 0, 8, 5);
        due("32: six are dead", x.hungry(0), 51);
        put(x, 0, 8, 99);
        due("32: none is dead", x.hungry(0), 0);
        due("32: nothing changes", x.count(0), 0);
        put(x, 0, 8, 8);
        hungryBy(x, "b=5", 0);
        hungryBy(x, "b=6", 1);
        hungryBy(x, "b=7", 2);
        hungryBy(x, "b=103", 98);
        Due.text(x, 1, "3");
        hungryBy(x, "b=103|b=104", 98);
        hungryBy(x, "b=104", 99);
        hungryBy(x, "b=105", 0);
    }

    private static void hungryBy(FoxRounds x, String enters, int hunger) {
        Due.text(x, 1, "3");
        Due.text(x, 0, enters);
        due("32: HUNGER by " + enters, x.hungry(0), hunger);
    }

    public static void main(String[] args) {
        dusk();
        harm();
        odds();
        yard();
        village();
        signs();
        Due.end();
    }
}
