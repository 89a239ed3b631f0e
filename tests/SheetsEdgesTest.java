/** The edges of promises 36 to 38: SHEETS of 0 to 40 numbers of 8, 16, 32 bits. */
public final class SheetsEdgesTest {
    private static final int MIN = Integer.MIN_VALUE;
    private static final int MAX = Integer.MAX_VALUE;

    private static void due(String call, long got, long want) {
        Due.due(call, got, want);
    }

    /** SHEET 0 of so many numbers; SHEET 3 has room for one, to look at a copy. */
    private static FoxRounds sheet(int bits, int n) {
        FoxRounds x = new FoxRounds();
        x.set(0, 0);
        due("a SHEET of " + n + ", " + bits + " bits", x.sheet(0, bits, n), 1);
        due("one of 1", x.sheet(3, bits, 1), 1);
        return x;
    }

    /** A number is OFF by itself, without HENS; held at 1000 and without sign. */
    private static void is(FoxRounds x, int sheet, int i, int number) {
        due("a copy of number " + i, x.move(sheet, i, 3, 0, 1), 1);
        due("number " + i, x.off(3), Math.min(1000, Math.abs((long) number)));
    }

    private static void sheets() {
        Due.says(36, "A SHEET has n numbers, all 0, of so many bits (8, 16, 32; 0: it is missing, n doesn't matter): 1.");
        for (int bits : new int[] {8, 16, 32}) {
            for (int n : new int[] {0, 1, 39, 40}) {
                FoxRounds x = sheet(bits, n);
                due("all 0", x.off(0), 0);
                for (int i = 0; i < n; i++) {
                    due("put " + i, x.put(0, i, 5), 1);
                }
                due("all 5", x.off(0), 5 * n);
                due("no more", x.put(0, n, 5), Due.BEYOND);
                due("anew", x.sheet(0, bits, n), 1);
                due("all 0 again", x.off(0), 0);
                due("of 40", x.sheet(0, bits, 40), 1);
                due("all 0 still", x.off(0), 0);
            }
        }
        FoxRounds x = new FoxRounds();
        for (int sheet = 0; sheet < 4; sheet++) {
            for (int n : new int[] {0, -1, 41, MIN, MAX}) {
                due("missing, n " + n, x.sheet(sheet, 0, n), 1);
                due("missing", x.off(sheet), Due.NONE);
                due("there", x.sheet(sheet, 8, 0), 1);
                due("there", x.off(sheet), 0);
            }
        }
        Due.says(0, "SHEETS 0 .. 3 are rows of 8, 16, 32 bits, at most 40 numbers, or missing");
        for (int sheet = 0; sheet < 4; sheet++) {
            x.sheet(sheet, 8 << sheet % 3, 40);
            x.put(sheet, 39, 10 + sheet);
        }
        for (int sheet = 0; sheet < 4; sheet++) {
            x.set(0, 0);
            due("each of its own", x.off(sheet), 10 + sheet);
        }
        x.sheet(2, 0, 0);
        due("one is missing", x.off(2), Due.NONE);
        due("the one ahead is there", x.off(1), 11);
        due("the one behind is there", x.off(3), 13);
    }

    private static void put() {
        Due.says(37, "Number i of a SHEET becomes v (its lowest bits): 1.");
        int[] of8 = {0, 1, 127, 128, 255, 256, 257, -1, -128, -129, -256, MIN, MAX, MIN + 1};
        int[] of16 = {0, 1, 32767, 32768, 65535, 65536, 65537, -1, -32768, -32769, -65536, MIN, MAX, 300};
        for (int v : of8) {
            FoxRounds x = sheet(8, 3);
            due("put " + v, x.put(0, 1, v), 1);
            is(x, 0, 1, (byte) v);
            is(x, 0, 0, 0);
            is(x, 0, 2, 0);
        }
        for (int v : of16) {
            FoxRounds x = sheet(16, 3);
            due("put " + v, x.put(0, 1, v), 1);
            is(x, 0, 1, (short) v);
            is(x, 0, 0, 0);
            is(x, 0, 2, 0);
        }
        for (int v : of16) {
            FoxRounds x = sheet(32, 3);
            due("put " + v, x.put(0, 1, v), 1);
            is(x, 0, 1, v);
        }
        FoxRounds x = sheet(32, 1);
        x.put(0, 0, 65536);
        x.put(0, 0, 999);
        is(x, 0, 0, 999);
        x.put(0, 0, 65536);
        due("65536 is no KIND", x.ways(0), 0);
    }

    /** What is left of it is seen as a KIND, an sm, a COST. */
    private static void lowestBits() {
        FoxRounds x = new FoxRounds();
        x.sheet(0, 8, 3);
        x.put(0, 0, 256 + 3);
        x.put(0, 1, 512 + 127);
        x.put(0, 2, 256 * 256 + 99);
        due("a WAY of the lowest 8 bits", x.ways(0), 1);
        due("KIND", x.ofWay(0, 0), 3);
        due("STRONG", x.ofWay(0, 1), 1);
        due("m", x.ofWay(0, 2), 27);
        due("COST", x.ofWay(0, 3), 99);
        x.sheet(0, 16, 3);
        x.put(0, 0, 65536 + 6);
        x.put(0, 1, 65536 * 3 + 9999);
        x.put(0, 2, MIN + 98);
        due("a WAY of the lowest 16 bits", x.ways(0), 1);
        due("KIND", x.ofWay(1, 0), 6);
        due("STRONG", x.ofWay(1, 1), 99);
        due("m", x.ofWay(1, 2), 99);
        due("COST", x.ofWay(1, 3), 98);
        x.sheet(0, 16, 3);
        x.put(0, 1, 65536 - 1);
        due("an sm of -1", x.ways(0), 0);
    }

    private static FoxRounds counted(int n) {
        FoxRounds x = sheet(16, n);
        for (int i = 0; i < n; i++) {
            x.put(0, i, 100 + i);
        }
        return x;
    }

    private static void move() {
        Due.says(38, "n numbers of a SHEET, from number i on, come to another one (or the same), from its number j on");
        FoxRounds x = counted(40);
        x.sheet(1, 16, 40);
        due("all 40", x.move(0, 0, 1, 0, 40), 40);
        is(x, 1, 0, 100);
        is(x, 1, 39, 139);
        due("the last one to the first", x.move(0, 39, 1, 0, 1), 1);
        is(x, 1, 0, 139);
        is(x, 1, 1, 101);
        due("the first one to the last", x.move(0, 0, 1, 39, 1), 1);
        is(x, 1, 39, 100);
        is(x, 1, 38, 138);
        due("none from behind the last", x.move(0, 40, 1, 0, 0), 0);
        due("none to behind the last", x.move(0, 0, 1, 40, 0), 0);
        due("none from beyond that", x.move(0, 41, 1, 0, 0), Due.BEYOND);
        due("none to beyond that", x.move(0, 0, 1, 41, 0), Due.BEYOND);
        due("one too many from there", x.move(0, 1, 1, 0, 40), Due.BEYOND);
        due("one too many to there", x.move(0, 0, 1, 1, 40), Due.BEYOND);
        due("ints that wrap", x.move(0, MAX, 1, 0, 1), Due.BEYOND);
        due("ints that wrap", x.move(0, 1, 1, 0, MAX), Due.BEYOND);
        due("ints that wrap", x.move(0, 0, 1, MAX, MAX), Due.BEYOND);
        due("ints that wrap", x.move(0, MIN, 1, MIN, MIN), Due.BEYOND);
        is(x, 1, 0, 139);
        x.sheet(1, 16, 0);
        x.sheet(2, 16, 0);
        due("none of none", x.move(1, 0, 2, 0, 0), 0);
        due("one of none", x.move(1, 0, 2, 0, 1), Due.BEYOND);
        due("one to none", x.move(0, 0, 1, 0, 1), Due.BEYOND);
        due("a longer one stands behind it", x.move(0, 39, 0, 39, 1), 1);
    }

    private static void moveInItself() {
        Due.says(38, "as they all were: n.");
        FoxRounds x = counted(40);
        due("up by one", x.move(0, 0, 0, 1, 39), 39);
        is(x, 0, 0, 100);
        for (int i = 1; i < 40; i++) {
            is(x, 0, i, 99 + i);
        }
        x = counted(40);
        due("down by one", x.move(0, 1, 0, 0, 39), 39);
        is(x, 0, 39, 139);
        for (int i = 0; i < 39; i++) {
            is(x, 0, i, 101 + i);
        }
        x = counted(5);
        due("to where they stand", x.move(0, 0, 0, 0, 5), 5);
        due("apart", x.move(0, 0, 0, 3, 2), 2);
        int[] then = {100, 101, 102, 100, 101};
        for (int i = 0; i < 5; i++) {
            is(x, 0, i, then[i]);
        }
    }

    public static void main(String[] args) {
        sheets();
        put();
        lowestBits();
        move();
        moveInItself();
        Due.end();
    }
}
