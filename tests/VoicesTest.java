/** Promises 33 to 35: z, VOICES and THE TRACE. */
public final class VoicesTest {
    private static final int BEYOND = Due.BEYOND;

    private static void due(String call, long got, long want) {
        Due.due(call, got, want);
    }

    private static void seed() {
        FoxRounds x = new FoxRounds();
        due("33: at first", x.seed(Integer.MIN_VALUE), 1);
        due("33: any number", x.seed(-2000000000), Integer.MIN_VALUE);
        due("33: any number", x.seed(0), -2000000000);
        due("33: no ERRORS", x.told(1) + x.told(2) + x.told(3) + x.told(4) + x.told(5), 0);
        due("43: z", x.count(7), 0);
    }

    /** WAYS 0 to 6 of their KINDS, m being 10 more. */
    private static FoxRounds house() {
        FoxRounds x = new FoxRounds();
        for (int kind = 0; kind < 7; kind++) {
            x.way(kind, 5010 + kind, 0);
        }
        return x;
    }

    private static void voice(int way, int act, int want, int... trace) {
        FoxRounds x = house();
        String call = "voice(" + way + ", " + act + ", 5)";
        due("34: " + call, x.voice(way, act, 5), want);
        due("35: BODIES of " + call, x.count(6), trace.length);
        for (int i = 0; i < trace.length; i++) {
            due("35: trace(" + i + ") of " + call, x.trace(i), trace[i]);
        }
        due("35: the end of " + call, x.trace(trace.length), Due.NONE);
    }

    private static void voices() {
        voice(0, 0, 5, 10);
        voice(0, 1, 10, 11, 10);
        voice(0, 2, -5, 12);
        voice(0, 3, -15, 13, 11, 10, 12);
        voice(1, 0, 6, 10);
        voice(1, 1, 22, 20, 11, 10, 12);
        voice(1, 2, -6, 12);
        voice(1, 3, -20, 13, 20, 11, 10, 12, 12);
        voice(2, 0, 21, 30, 10);
        voice(2, 1, 42, 11, 30, 10);
        voice(2, 2, -7, 12);
        voice(2, 3, -45, 13, 11, 30, 10, 12);
        voice(3, 0, 8, 10);
        voice(3, 1, 16, 11, 10);
        voice(3, 2, 8, 40, 12);
        voice(3, 3, 24, 13, 11, 10, 40, 12);
        voice(4, 0, 30, 50, 30, 10);
        voice(4, 1, 60, 11, 50, 30, 10);
        voice(4, 2, -9, 12);
        voice(4, 3, -53, 13, 11, 50, 30, 10, 12);
        voice(5, 0, 10, 10);
        voice(5, 1, 20, 11, 10);
        voice(5, 2, 10, 40, 12);
        voice(5, 3, 23, 60, 13, 11, 10, 40, 12, 10);
        voice(6, 0, 11, 10);
        voice(6, 1, 35, 70, 20, 11, 10, 12);
        voice(6, 2, -11, 12);
        voice(6, 3, 77, 71, 70, 20, 11, 10, 12, 13, 70, 20, 11, 10, 12, 12);
    }

    private static void edges() {
        FoxRounds x = house();
        due("35: none yet", x.trace(0), Due.NONE);
        due("34: ints go round", x.voice(1, 0, Integer.MAX_VALUE), Integer.MIN_VALUE);
        due("34: ints go round", x.voice(0, 2, Integer.MIN_VALUE), Integer.MAX_VALUE - 9);
        due("34: below the ERRORS", x.voice(0, 0, -2000000000), -2000000000);
        due("34: no ERRORS", x.told(1), 0);
        due("34: way -1", x.voice(-1, 0, 0), BEYOND);
        due("34: way 7", x.voice(7, 0, 0), BEYOND);
        due("34: act -1", x.voice(0, -1, 0), BEYOND);
        due("34: act 4", x.voice(0, 4, 0), BEYOND);
        due("35: THE TRACE stays", x.count(6), 1);
        due("35: THE TRACE stays", x.trace(0), 10);
        due("35: i -1", x.trace(-1), Due.NONE);
        due("35: i far off", x.trace(Integer.MAX_VALUE), Due.NONE);
        due("44: told", x.told(1), 4);
        due("44: told", x.told(2), 3);
    }

    public static void main(String[] args) {
        seed();
        voices();
        edges();
        Due.end();
    }
}
