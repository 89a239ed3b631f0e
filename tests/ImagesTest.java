/** Promises 39 to 44: IMAGES, what is told and counted. */
public final class ImagesTest {
    private static final int BEYOND = Due.BEYOND;

    private static void due(String call, long got, long want) {
        Due.due(call, got, want);
    }

    private static FoxRounds filled() {
        FoxRounds x = new FoxRounds();
        int[] numbers = {50, 2, 30, 10, 1, 300, 10, 60};
        for (int i = 0; i < 8; i++) {
            x.set(i, numbers[i]);
        }
        x.way(2, 6607, 8);
        x.wear(0, 4, 5);
        x.wear(0, 5, 6);
        x.thing(40, 3);
        x.hang(0, 1);
        Due.text(x, 0, "e");
        Due.text(x, 1, "h-f");
        Due.text(x, 2, "a-1");
        Due.feed(x, "a+1");
        x.tell(-1);
        x.tell(5);
        x.dusk(3, 777);
        x.yard(0, 20, 30, 1);
        x.seed(99);
        return x;
    }

    /** Changes all that filled() made, and the image's surroundings. */
    private static void spoil(FoxRounds x) {
        int[] numbers = {99, 4, 99, 99, 0, 900, 120, 240};
        for (int i = 0; i < 8; i++) {
            x.set(i, numbers[i]);
        }
        x.way(0, 0, 0);
        x.mend(0);
        x.wear(0, 5, 0);
        x.hang(0, 0);
        x.thing(1, 1);
        x.text(0);
        Due.text(x, 0, "1");
        Due.text(x, 1, "1");
        Due.text(x, 2, "1");
        x.feed('9', 1);
        x.check();
        x.tell(0);
        x.tell(7);
        x.tell(7);
        x.dusk(3, 0);
        x.yard(0, 40, 10, 0);
        x.seed(5);
        x.nights(60);
    }

    private static void isFilled(FoxRounds x) {
        due("40: TONIGHT", x.count(0), 0);
        due("40: WAYS", x.count(1), 1);
        due("40: THINGS", x.count(2), 1);
        due("40: KILLED", x.count(3), 0);
        due("40: THE TAPE", x.count(4), 3);
        due("40: that wait", x.count(5), 2);
        due("40: z", x.count(7), 99);
        int[] way = {2, 66, 7, 8, 5, 6, 28};
        for (int i = 0; i < 7; i++) {
            due("40: of the WAY " + i, x.ofWay(0, i), way[i]);
        }
        due("40: FRIGHT", x.ofThing(0, 0), 40);
        due("40: hung up", x.ofThing(0, 2), 1);
        due("40: ENTERS", x.law(0, 7, 5, 5), 7);
        due("40: KILLS", x.law(1, 50, 7, 5), 43);
        due("40: STAYS", x.law(2, 50, 7, 5), 49);
        // It would get in by 0 tonight.
        due("40: waits", x.check(), 1);
        due("40: THE TAPE", x.text(2), 1);
        due("40: was a+1", x.law(2, 50, 0, 0), 51);
        due("40: DUSK", x.dusk(3, 0), 777);
        due("40: LOSS", x.village(1), 1);
        due("40: shut", x.village(0), 1);
        due("40: PRICE", x.yard(0, 0, 0, 0), 20);
        int[] numbers = {50, 2, 30, 10, 1, 300, 10, 60};
        for (int i = 0; i < 8; i++) {
            due("40: set(" + i + ")", x.set(i, numbers[i]), numbers[i]);
        }
    }

    private static void images() {
        FoxRounds x = filled();
        due("40: none", x.restore(), Due.NONE);
        due("39: the first", x.image(), 1);
        spoil(x);
        due("40: TONIGHT then", x.restore(), 0);
        isFilled(x);
        spoil(x);
        due("40: the IMAGE stays", x.restore(), 0);
        isFilled(x);
        x.nights(7);
        due("39: the second", x.image(), 2);
        x.nights(7);
        due("40: in place of the one ahead", x.restore(), 7);
        due("40: again", x.restore(), 7);
        due("39: the third", x.image(), 3);
    }

    private static void whatAnImageLeavesOut() {
        FoxRounds x = new FoxRounds();
        x.way(0, 0, 0);
        x.set(0, 0);
        x.sheet(0, 8, 1);
        x.image();
        x.put(0, 0, 9);
        x.sheet(1, 8, 1);
        x.voice(0, 3, 1);
        x.set(9, 9);
        x.restore();
        due("40: SHEETS stay", x.off(0), 9);
        due("40: SHEETS stay", x.off(1), 0);
        due("40: THE TRACE stays", x.count(6), 4);
        due("40: what told() tells stays", x.told(1), 1);
        due("39: how often stays", x.image(), 2);
    }

    private static void tell() {
        FoxRounds x = new FoxRounds();
        due("42: none wait", x.check(), 0);
        for (int i = 1; i <= 20; i++) {
            due("41: one more", x.tell(-1), i);
        }
        due("41: FULL", x.tell(-1), Due.FULL);
        due("43: that wait", x.count(5), 20);
        due("42: all alike", x.check(), 0);
        due("43: none do then", x.count(5), 0);
        // It gets in the fifth NIGHT, and the twelfth.
        x.way(0, 4000, 0);
        for (int i = 1; i <= 13; i++) {
            x.tell(i % 7 == 5 ? 0 : -1);
        }
        due("42: as it comes", x.check(), 0);
        for (int i = 1; i <= 13; i++) {
            x.tell(i == 5 ? 0 : -1);
        }
        due("42: the twelfth isn't so", x.check(), 12);
        due("43: none do then", x.count(5), 0);
        due("41: any number", x.tell(Integer.MIN_VALUE), 1);
        x.tell(0);
        due("42: the first isn't so", x.check(), 1);
        due("42: nothing changes", x.count(0), 0);
        due("42: nothing changes", x.ofWay(0, 5), 0);
    }

    private static void counted() {
        FoxRounds x = filled();
        x.nights(3);
        x.voice(0, 1, 0);
        // The first NIGHT 48 of 50 HENS are dead, then none.
        int[] counts = {3, 1, 1, 48, 3, 2, 3, 99};
        for (int i = 0; i < 8; i++) {
            due("43: count(" + i + ")", x.count(i), counts[i]);
        }
        due("43: what -1", x.count(-1), BEYOND);
        due("43: what 8", x.count(8), BEYOND);
    }

    private static void told() {
        FoxRounds x = new FoxRounds();
        due("44: k 0", x.told(0), BEYOND);
        due("44: k 6", x.told(6), BEYOND);
        due("44: k -1", x.told(-1), BEYOND);
        due("44: counted", x.told(1), 3);
        x.restore();
        x.off(0);
        due("44: NONE", x.told(2), 2);
        x.sheet(0, 8, -1);
        due("44: STATE", x.told(3), 1);
        for (int i = 0; i < 9; i++) {
            x.thing(0, 0);
        }
        due("44: FULL", x.told(4), 4);
        x.way(0, 0, 0);
        x.as(0, 1);
        due("44: KIND", x.told(5), 1);
        x.odds(0, 0, 0);
        due("44: longs, too", x.told(1), 4);
        x.text(0);
        x.seed(-1000000001);
        x.seed(1);
        due("44: no ERRORS", x.told(1), 4);
    }

    public static void main(String[] args) {
        images();
        whatAnImageLeavesOut();
        tell();
        counted();
        told();
        Due.end();
    }
}
