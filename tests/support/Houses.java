import java.util.ArrayList;
import java.util.List;

/** Objects in some state, always made by the same calls, and all that can be asked of one. */
final class Houses {
    private Houses() {
    }

    static FoxRounds bare() {
        return new FoxRounds();
    }

    private static void sheet(FoxRounds x, int sheet, int bits, int... numbers) {
        x.sheet(sheet, bits, numbers.length);
        for (int i = 0; i < numbers.length; i++) {
            x.put(sheet, i, numbers[i]);
        }
    }

    private static void yards(FoxRounds x) {
        x.yard(0, 10, 30, 0);
        x.yard(1, 40, 30, 1);
        x.yard(2, 20, 50, 0);
        x.yard(3, 5, 9, 1);
        x.yard(4, 7, 7, 0);
        x.yard(5, 8, 8, 1);
    }

    /** 3 WAYS, 2 THINGS, "a+1" on THE TAPE, 2 numbers that wait, SHEETS 0 to 2, an IMAGE, a TRACE of 13. */
    static FoxRounds lived() {
        FoxRounds x = new FoxRounds();
        x.way(1, 5007, 5);
        x.way(2, 6010, 10);
        x.thing(30, 2);
        Due.text(x, 0, "e+b>90");
        Due.text(x, 1, "f*2+1");
        Due.text(x, 2, "a-a/9");
        x.seed(77);
        x.dusk(2, 1000);
        x.image();
        x.way(6, 4020, 15);
        x.thing(12, 3);
        x.hang(0, 1);
        x.set(0, 40);
        x.set(3, 25);
        x.set(6, 15);
        x.set(7, -5);
        yards(x);
        x.dusk(7, 1300);
        x.careless(7, 50);
        x.set(4, 1);
        x.set(5, 400);
        sheet(x, 0, 8, 3, 9, -7);
        sheet(x, 1, 16, 4, 3020, 7);
        sheet(x, 2, 32, 70000, 5);
        x.voice(2, 3, 5);
        Due.feed(x, "a+1");
        x.tell(x.by());
        x.tell(7);
        return x;
    }

    /** All that can be full is: WAYS, THINGS, THE TAPE, what waits, SHEETS, and it is NIGHT 999. */
    static FoxRounds full() {
        FoxRounds x = new FoxRounds();
        for (int i = 0; i < 16; i++) {
            x.nights(60);
        }
        x.nights(39);
        for (int i = 0; i < 8; i++) {
            x.way(i % 7, 6000 + 7 * i, i);
        }
        for (int i = 0; i < 5; i++) {
            x.thing(10 + i, i);
        }
        x.set(2, 30);
        for (int i = 0; i < 6; i++) {
            x.feed(0x2b312b312b312b31L, 8);
        }
        x.feed(0x3939L, 2);
        for (int i = 0; i < 20; i++) {
            x.tell(-1);
        }
        x.sheet(0, 8, 40);
        x.put(0, 39, 9);
        x.sheet(1, 16, 40);
        x.put(1, 0, 900);
        x.sheet(2, 32, 0);
        return x;
    }

    /** All that calls tell, in fewer than 350 of them. The object is spoilt behind it. */
    static List<Long> all(FoxRounds x) {
        List<Long> all = new ArrayList<>();
        counts(x, all);
        for (int i = 0; i < 17; i++) {
            all.add((long) x.trace(i));
        }
        whatComes(x, all);
        spoilTheRest(x, all);
        spoilSheets(x, all);
        all.add((long) x.restore());
        counts(x, all);
        whatComes(x, all);
        spoilTheRest(x, all);
        all.add((long) x.image());
        return all;
    }

    private static void counts(FoxRounds x, List<Long> all) {
        for (int what = 0; what < 8; what++) {
            all.add((long) x.count(what));
        }
        int ways = x.count(1);
        for (int w = 0; w < ways; w++) {
            for (int what = 0; what < 7; what++) {
                all.add((long) x.ofWay(w, what));
            }
        }
        int things = x.count(2);
        for (int t = 0; t < things; t++) {
            for (int what = 0; what < 3; what++) {
                all.add((long) x.ofThing(t, what));
            }
        }
    }

    private static void whatComes(FoxRounds x, List<Long> all) {
        for (int what = 0; what < 6; what++) {
            all.add((long) x.then(0, what));
            all.add((long) x.then(9, what));
        }
        int[] laws = {x.law(0, 50, 41, 3), x.law(0, 1, 2, 3), x.law(1, 99, 3, 60), x.law(2, 90, 5, 0)};
        int[] rest = {x.by(), x.loss(60), x.mends(12, 9, 0), x.hangs(9, 0), x.clock(), x.harm(1100), x.village(0),
            x.village(1)};
        for (int v : laws) {
            all.add((long) v);
        }
        for (int v : rest) {
            all.add((long) v);
        }
        for (int sheet = 0; sheet < 4; sheet++) {
            all.add((long) x.off(sheet));
        }
    }

    /** What can be told only by calls that change it. */
    private static void spoilTheRest(FoxRounds x, List<Long> all) {
        all.add((long) x.check());
        all.add((long) x.text(2));
        all.add((long) x.law(2, 50, 0, 0));
        all.add((long) x.seed(3));
        for (int month = 0; month < 12; month++) {
            all.add((long) x.dusk(month, 0));
        }
        for (int yard = 0; yard < 6; yard++) {
            all.add((long) x.village(1));
            all.add((long) x.yard(yard, 0, 0, 1));
        }
        int[] anew = {0, 1, 0, 0, 0, 60, 0, 0};
        for (int what = 0; what < 8; what++) {
            all.add((long) x.set(what, anew[what]));
        }
    }

    /** Without HENS a SHEET is OFF by its numbers: how much less without each. */
    private static void spoilSheets(FoxRounds x, List<Long> all) {
        for (int sheet = 0; sheet < 4; sheet++) {
            all.add((long) x.off(sheet));
            for (int i : new int[] {0, 1, 2, 39}) {
                all.add((long) x.put(sheet, i, 0));
                all.add((long) x.off(sheet));
            }
        }
    }
}
