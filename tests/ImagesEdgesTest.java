/** The edges of promises 39 to 44: IMAGES, numbers that wait, what is counted and told. */
public final class ImagesEdgesTest {
    private static void due(String call, long got, long want) {
        Due.due(call, got, want);
    }

    /** Changes all that an IMAGE keeps. */
    private static void spoil(FoxRounds x) {
        int[] numbers = {98, 3, 97, 96, 0, 899, 119, 239};
        for (int what = 0; what < 8; what++) {
            x.set(what, numbers[what]);
        }
        for (int use = 0; use < 3; use++) {
            Due.feed(x, "1");
            x.text(use);
            Due.text(x, use, "2");
        }
        x.feed('1', 1);
        x.check();
        x.tell(5);
        x.mend(0);
        for (int what : new int[] {1, 4, 5}) {
            x.wear(1, what, 8);
        }
        x.way(3, 0, 0);
        x.hang(0, 0);
        x.hang(1, 1);
        x.thing(3, 3);
        for (int month = 0; month < 12; month++) {
            x.dusk(month, 100 + month);
        }
        for (int yard = 0; yard < 6; yard++) {
            x.yard(yard, 60 + yard, 70, (yard + 1) % 2);
        }
        x.nights(3);
        x.seed(4);
    }

    private static void image() {
        Due.says(40, "All is as the IMAGE has it, which stays: TONIGHT. NONE: there is none.");
        FoxRounds x = Houses.lived();
        FoxRounds y = Houses.lived();
        x.image();
        y.image();
        spoil(y);
        due("TONIGHT", y.restore(), 7);
        spoil(y);
        due("TONIGHT again", y.restore(), 7);
        java.util.List<Long> is = Houses.all(x);
        java.util.List<Long> was = Houses.all(y);
        for (int i = 0; i < was.size(); i++) {
            due("the answer " + i + " behind image() and restore()", is.get(i), was.get(i));
        }
        x = new FoxRounds();
        due("none", x.restore(), Due.NONE);
        Due.says(39, "in place of one ahead: how often that was done");
        due("of a bare object", x.image(), 1);
        x.nights(60);
        for (int i = 0; i < 8; i++) {
            x.way(0, 0, 0);
        }
        due("restore", x.restore(), 0);
        due("WAYS", x.count(1), 0);
        due("no such WAY", x.ofWay(0, 0), Due.BEYOND);
        due("BY", x.by(), -1);
        for (int i = 2; i < 30; i++) {
            x.nights(1);
            due("image " + i, x.image(), i);
            due("restore " + i, x.restore(), i - 1);
        }
        x = new FoxRounds();
        for (int i = 0; i < 16; i++) {
            x.nights(60);
        }
        x.nights(39);
        x.image();
        due("restore in NIGHT 999", x.restore(), 999);
        due("no NIGHT more", x.nights(1), Due.STATE);
    }

    private static void fullImage() {
        FoxRounds x = Houses.full();
        due("of a full object", x.image(), 1);
        x.text(0);
        x.check();
        due("THE TAPE", x.count(4), 0);
        due("that wait", x.count(5), 0);
        due("restore", x.restore(), 999);
        due("THE TAPE", x.count(4), 50);
        due("that wait", x.count(5), 20);
        due("no byte more", x.feed(0, 1), Due.FULL);
        due("no number more", x.tell(0), Due.FULL);
        due("no WAY more", x.way(0, 0, 0), Due.FULL);
        due("no THING more", x.thing(0, 0), Due.FULL);
        Due.says(39, "All (but SHEETS, THE TRACE, what told() tells, and how often this was done) is kept as an IMAGE");
        due("told", x.told(4), 4);
        x.voice(0, 0, 0);
        x.sheet(0, 0, 0);
        x.image();
        x.voice(0, 3, 0);
        x.sheet(0, 8, 1);
        x.tell(0);
        due("restore", x.restore(), 999);
        due("THE TRACE stays", x.count(6), 4);
        due("SHEETS stay", x.put(0, 0, 0), 1);
        due("told stays", x.told(4), 5);
        due("how often stays", x.image(), 3);
    }

    private static void tell() {
        Due.says(41, "One more number waits: how many. FULL: 20 wait.");
        FoxRounds x = new FoxRounds();
        for (int round = 0; round < 2; round++) {
            for (int n = 1; n <= 20; n++) {
                due("number " + n, x.tell(-1), n);
            }
            due("one more", x.tell(-1), Due.FULL);
            due("that wait", x.count(5), 20);
            due("check", x.check(), 0);
        }
        Due.says(42, "(none do then)");
        due("that wait", x.count(5), 0);
        due("check of none", x.check(), 0);
    }

    private static FoxRounds house() {
        FoxRounds x = new FoxRounds();
        Due.text(x, 0, "t%2");
        Due.text(x, 1, "0");
        x.way(0, 0, 0);
        return x;
    }

    private static void check() {
        Due.says(42, "0; else 1 and the place (from 0) of the first that isn't so");
        for (int wrong = 0; wrong <= 20; wrong++) {
            FoxRounds x = house();
            for (int i = 0; i < 20; i++) {
                x.tell(i == wrong ? 7 : i % 2 - 1);
            }
            // It gets in by WAY 0 in odd NIGHTS.
            due("the one at " + wrong + " isn't so", x.check(), wrong == 20 ? 0 : wrong + 1);
            due("none wait", x.count(5), 0);
            due("TONIGHT stays", x.count(0), 0);
        }
        int[] far = {Integer.MIN_VALUE, -2, 0, 1, Integer.MAX_VALUE};
        for (int v : far) {
            FoxRounds x = house();
            x.tell(v);
            due(v + " in the first NIGHT", x.check(), 1);
            x.tell(-1);
            due("none in the first NIGHT", x.check(), 0);
        }
        FoxRounds x = house();
        x.tell(-1);
        x.tell(3);
        x.tell(5);
        due("the first of two that aren't so", x.check(), 2);
        Due.says(0, "(beyond 999, too)");
        for (int i = 0; i < 16; i++) {
            x.nights(60);
        }
        x.nights(39);
        for (int i = 0; i < 20; i++) {
            x.tell(i % 2 == 0 ? 0 : -1);
        }
        due("from NIGHT 999 on", x.check(), 0);
        due("TONIGHT stays", x.count(0), 999);
    }

    private static void count() {
        Due.says(43, "0 TONIGHT, 1 WAYS, 2 THINGS, 3 KILLED, 4 bytes of THE TAPE, 5 numbers that wait, 6 BODIES in THE TRACE");
        FoxRounds x = Houses.full();
        x.voice(6, 3, 0);
        int[] full = {999, 8, 5, 0, 50, 20, 13};
        for (int what = 0; what < 7; what++) {
            due("what " + what, x.count(what), full[what]);
        }
        Due.says(43, "7 z (any number)");
        x.seed(Due.BEYOND);
        due("z", x.count(7), Due.BEYOND);
        due("no ERROR", x.told(1), 0);
        Due.says(0, "KILLED, 0 at first, is more by that");
        x = new FoxRounds();
        Due.text(x, 0, "1");
        Due.text(x, 1, "h");
        x.way(0, 0, 0);
        for (int i = 1; i <= 20; i++) {
            x.set(0, 99);
            x.nights(1);
            due("KILLED", x.count(3), 99 * i);
        }
    }

    private static void told() {
        Due.says(44, "How many acts have answered an ERROR LOW - k (k 1 .. 5); BEYOND: another k (counted, too).");
        FoxRounds x = new FoxRounds();
        for (int k = 1; k <= 5; k++) {
            due("at first", x.told(k), 0);
        }
        due("k 0", x.told(0), Due.BEYOND);
        due("counted", x.told(1), 1);
        due("k 6", x.told(6), Due.BEYOND);
        due("counted", x.told(1), 2);
        due("far off", x.told(Integer.MIN_VALUE), Due.BEYOND);
        due("far off", x.told(Integer.MAX_VALUE), Due.BEYOND);
        due("counted", x.told(1), 4);
        Due.says(0, "(in longs, too)");
        due("odds", x.odds(0, 0, 0), -1000000001L);
        due("counted", x.told(1), 5);
        Due.says(0, "LOW - 1 BEYOND, LOW - 2 NONE, LOW - 3 STATE, LOW - 4 FULL, LOW - 5 KIND");
        x.sheet(0, 8, 0);
        x.sheet(1, 16, 0);
        for (int n = 1; n <= 9; n++) {
            due("NONE", x.restore(), -1000000002);
            due("STATE", x.sheet(0, 8, -1), -1000000003);
            due("KIND", x.move(0, 0, 1, 0, 0), -1000000005);
            if (n > 5) {
                due("FULL", x.thing(0, 0), -1000000004);
            } else {
                x.thing(0, 0);
            }
            due("told NONE", x.told(2), n);
            due("told STATE", x.told(3), n);
            due("told FULL", x.told(4), Math.max(0, n - 5));
            due("told KIND", x.told(5), n);
        }
        due("told BEYOND", x.told(1), 5);
        x = new FoxRounds();
        for (int i = 0; i < 511; i++) {
            x.told(0);
        }
        Due.says(0, "An object is used for at most 512 calls after it has been made");
        due("the 512th call", x.told(1), 511);
    }

    public static void main(String[] args) {
        image();
        fullImage();
        tell();
        check();
        count();
        told();
        Due.end();
    }
}
