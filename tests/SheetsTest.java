/** Promises 36 to 38: SHEETS. */
public final class SheetsTest {
    private static final int BEYOND = Due.BEYOND;

    private static void due(String call, long got, long want) {
        Due.due(call, got, want);
    }

    private static FoxRounds house() {
        FoxRounds x = new FoxRounds();
        // Without HENS a SHEET is OFF by its numbers.
        x.set(0, 0);
        return x;
    }

    private static void sheet() {
        FoxRounds x = house();
        due("36: sheet -1", x.sheet(-1, 8, 1), BEYOND);
        due("36: sheet 4", x.sheet(4, 8, 1), BEYOND);
        due("36: sheet 4, n -1", x.sheet(4, 8, -1), BEYOND);
        due("36: sheet 4, missing", x.sheet(4, 0, 0), BEYOND);
        for (int bits : new int[] {-8, 1, 7, 9, 24, 64, Integer.MIN_VALUE}) {
            due("36: bits " + bits, x.sheet(0, bits, 1), BEYOND);
            due("36: bits ahead of n -1", x.sheet(0, bits, -1), BEYOND);
        }
        due("36: n -1", x.sheet(0, 8, -1), Due.STATE);
        due("36: n far off", x.sheet(0, 16, Integer.MIN_VALUE), Due.STATE);
        due("36: n 41", x.sheet(0, 32, 41), BEYOND);
        due("36: still missing", x.off(0), Due.NONE);
        due("36: n 0", x.sheet(0, 8, 0), 1);
        due("36: not missing", x.off(0), 0);
        due("36: n 40", x.sheet(0, 16, 40), 1);
        due("36: all 0", x.off(0), 0);
        x.put(0, 39, 5);
        due("36: n 41 changes nothing", x.sheet(0, 8, 41), BEYOND);
        due("36: n -1 changes nothing", x.sheet(0, 8, -1), Due.STATE);
        due("36: as it was", x.off(0), 5);
        due("36: anew", x.sheet(0, 16, 40), 1);
        due("36: all 0 again", x.off(0), 0);
        due("36: n doesn't matter", x.sheet(0, 0, -5), 1);
        due("36: missing", x.off(0), Due.NONE);
        due("36: n doesn't matter", x.sheet(0, 0, 99), 1);
        due("36: the others aren't there", x.off(1), Due.NONE);
    }

    private static void put() {
        FoxRounds x = house();
        due("37: sheet -1", x.put(-1, 0, 0), BEYOND);
        due("37: sheet 4", x.put(4, 0, 0), BEYOND);
        due("37: missing", x.put(0, 0, 0), Due.NONE);
        due("37: missing, i -1", x.put(0, -1, 0), Due.NONE);
        x.sheet(0, 8, 0);
        due("37: of nothing", x.put(0, 0, 0), BEYOND);
        x.sheet(0, 8, 3);
        due("37: i -1", x.put(0, -1, 0), BEYOND);
        due("37: i 3", x.put(0, 3, 0), BEYOND);
        due("37: i far off", x.put(0, Integer.MAX_VALUE, 0), BEYOND);
        due("37: 256 of 8 bits", x.put(0, 2, 256), 1);
        due("37: is 0", x.off(0), 0);
        due("37: 300 of 8 bits", x.put(0, 2, 300), 1);
        due("37: is 44", x.off(0), 44);
        due("37: -1 of 8 bits", x.put(0, 0, -1), 1);
        due("37: is -1", x.off(0), 45);
        due("37: -300 of 8 bits", x.put(0, 0, -300), 1);
        due("37: is -44", x.off(0), 88);
        x.sheet(1, 16, 1);
        due("37: 65536 + 70 of 16 bits", x.put(1, 0, 65606), 1);
        due("37: is 70", x.off(1), 70);
        due("37: 300 of 16 bits", x.put(1, 0, 300), 1);
        due("37: is 300", x.off(1), 300);
        x.sheet(2, 32, 1);
        due("37: 65606 of 32 bits", x.put(2, 0, 65606), 1);
        due("37: is 65606", x.off(2), 1000);
    }

    /** Whether these are the numbers of sheet 0, told by a copy of each. */
    private static void numbers(FoxRounds x, int sheet, int... numbers) {
        for (int i = 0; i < numbers.length; i++) {
            x.sheet(3, 8, 1);
            due("38: a copy", x.move(sheet, i, 3, 0, 1), 1);
            due("38: number " + i + " of " + sheet, x.off(3), numbers[i]);
        }
    }

    private static void move() {
        FoxRounds x = house();
        x.sheet(0, 8, 5);
        x.sheet(1, 8, 4);
        for (int i = 0; i < 5; i++) {
            x.put(0, i, i + 1);
        }
        due("38: to another", x.move(0, 1, 1, 0, 3), 3);
        numbers(x, 1, 2, 3, 4, 0);
        due("38: up in itself", x.move(0, 0, 0, 1, 4), 4);
        numbers(x, 0, 1, 1, 2, 3, 4);
        due("38: down in itself", x.move(0, 1, 0, 0, 4), 4);
        numbers(x, 0, 1, 2, 3, 4, 4);
        due("38: none", x.move(0, 5, 1, 4, 0), 0);
        due("38: none from where none stands", x.move(0, 6, 1, 0, 0), BEYOND);
        due("38: none to where none stands", x.move(0, 0, 1, 5, 0), BEYOND);
        due("38: n -1", x.move(0, 0, 1, 0, -1), BEYOND);
        due("38: i -1", x.move(0, -1, 1, 0, 1), BEYOND);
        due("38: j -1", x.move(0, 0, 1, -1, 1), BEYOND);
        due("38: too many from there", x.move(0, 3, 1, 0, 3), BEYOND);
        due("38: too many to there", x.move(0, 0, 1, 2, 3), BEYOND);
        due("38: far too many", x.move(0, 1, 1, 1, Integer.MAX_VALUE), BEYOND);
        due("38: from far off", x.move(0, Integer.MAX_VALUE, 1, 0, 1), BEYOND);
        due("38: to far off", x.move(0, 0, 1, Integer.MAX_VALUE, Integer.MAX_VALUE), BEYOND);
        numbers(x, 1, 2, 3, 4, 0);
    }

    private static void moveErrors() {
        FoxRounds x = house();
        x.sheet(0, 8, 5);
        due("38: sheet -1", x.move(-1, 0, 0, 0, 1), BEYOND);
        due("38: sheet 4", x.move(4, 0, 0, 0, 1), BEYOND);
        due("38: other -1", x.move(0, 0, -1, 0, 1), BEYOND);
        due("38: other 4, one missing", x.move(1, 0, 4, 0, 1), BEYOND);
        due("38: missing", x.move(1, 0, 0, 0, 1), Due.NONE);
        due("38: other missing, n -1", x.move(0, 0, 1, 0, -1), Due.NONE);
        x.sheet(1, 16, 5);
        x.sheet(2, 32, 5);
        due("38: 8 to 16", x.move(0, 0, 1, 0, 1), Due.KIND);
        due("38: 32 to 16, n -1", x.move(2, 0, 1, 0, -1), Due.KIND);
        due("38: none of 8 to 32", x.move(0, 0, 2, 0, 0), Due.KIND);
        due("44: told", x.told(5), 3);
    }

    public static void main(String[] args) {
        sheet();
        put();
        move();
        moveErrors();
        Due.end();
    }
}
