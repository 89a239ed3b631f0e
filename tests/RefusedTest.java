import java.util.List;
import java.util.function.Supplier;

/** Every refused call: the ERROR that it answers, and that nothing but what told() tells has changed. */
public final class RefusedTest {
    private static final int BEYOND = Due.BEYOND;
    private static final int NONE = Due.NONE;
    private static final int STATE = Due.STATE;
    private static final int FULL = Due.FULL;
    private static final int KIND = Due.KIND;

    private static Supplier<FoxRounds> house = Houses::lived;

    private static void refused(int error, String... calls) {
        for (String call : calls) {
            FoxRounds x = house.get();
            FoxRounds y = house.get();
            Due.due(call, Call.on(x, call), error);
            for (int k = 1; k <= 5; k++) {
                Due.due("told(" + k + ") behind " + call, x.told(k), y.told(k) + (Due.LOW - k == error ? 1 : 0));
            }
            List<Long> is = Houses.all(x);
            List<Long> was = Houses.all(y);
            for (int i = 0; i < was.size(); i++) {
                Due.due("the answer " + i + " behind " + call, is.get(i), was.get(i));
            }
        }
    }

    /** The least and the greatest number at the ? are let in, those beyond them aren't. */
    private static void range(String call, int least, int greatest) {
        range(call, least, greatest, BEYOND, BEYOND);
    }

    private static void range(String call, int least, int greatest, int below, int above) {
        letIn(call, least, below);
        letIn(call, greatest, above);
        refused(below, call.replace("?", "" + (least - 1)), call.replace("?", "MIN"));
        refused(above, call.replace("?", "" + (greatest + 1)), call.replace("?", "MAX"));
    }

    private static void letIn(String call, int v, int error) {
        String at = call.replace("?", "" + v);
        FoxRounds x = house.get();
        int was = x.told(Due.LOW - error);
        if (Call.on(x, at) == error || x.told(Due.LOW - error) != was) {
            Due.fault(at + " is refused");
        }
    }

    private static void waysAndThings() {
        Due.says(2, "BEYOND.");
        range("set ? 1", 0, 7);
        range("set 0 ?", 0, 99);
        range("set 1 ?", 1, 4);
        range("set 2 ?", 0, 99);
        range("set 3 ?", 0, 99);
        range("set 4 ?", 0, 1);
        range("set 5 ?", 60, 900);
        range("set 6 ?", 0, 120);
        range("set 7 ?", -120, 240);
        Due.says(3, "A WAY: its number. sm: 100 * STRONG, and m. BEYOND.");
        range("way ? 0 0", 0, 6);
        range("way 0 ? 0", 0, 9999);
        range("way 0 0 ?", 0, 99);
        Due.says(4, "BEYOND.");
        range("ofWay ? 0", 0, 2);
        range("ofWay 0 ?", 0, 6);
        Due.says(5, "BEYOND: also another what.");
        range("wear ? 1 5", 0, 2);
        range("wear 0 1 ?", 0, 99);
        range("wear 0 4 ?", 0, 99);
        range("wear 0 5 ?", 0, 9);
        refused(BEYOND, "wear 0 -1 1", "wear 0 0 1", "wear 0 2 1", "wear 0 3 1", "wear 0 6 1", "wear 0 7 1");
        refused(BEYOND, "wear 0 MIN 1", "wear 0 MAX 1");
        Due.says(6, "A WAY as one of a KIND: STRONG. BEYOND.");
        range("as ? 0", 0, 2);
        range("as 2 ?", 0, 6);
        Due.says(6, "KIND: it isn't of that KIND, nor of one under it.");
        refused(KIND, "as 0 2", "as 0 6", "as 1 4", "as 1 1", "as 2 2", "as 2 5");
        Due.says(7, "BEYOND: no such SHEET. NONE: it is missing.");
        range("ways ?", 0, 3);
        refused(NONE, "ways 3");
        Due.says(8, "BEYOND.");
        range("mend ?", 0, 2);
        Due.says(9, "A THING: its number. BEYOND.");
        range("thing ? 0", 0, 99);
        range("thing 0 ?", 0, 30);
        Due.says(10, "BEYOND.");
        range("ofThing ? 0", 0, 1);
        range("ofThing 0 ?", 0, 2);
        Due.says(11, "BEYOND.");
        range("hang ? 1", 0, 1);
        range("hang 0 ?", 0, 1);
    }

    private static void textsAndNights() {
        Due.says(14, "BEYOND.");
        range("feed 49 ?", 1, 8);
        Due.says(15, "BEYOND (THE TAPE stays).");
        range("text ?", 0, 2);
        Due.says(16, "BEYOND.");
        range("law ? 1 1 1", 0, 2);
        Due.says(17, "BEYOND: n.");
        range("nights ?", 1, 60);
        Due.says(18, "BEYOND, STATE likewise.");
        range("careless ? 0", 1, 60);
        range("careless 1 ?", 0, 100);
    }

    private static void ahead() {
        Due.says(19, "BEYOND.");
        range("then ? 0", 0, 60);
        range("then 0 ?", 0, 5);
        Due.says(20, "BEYOND.");
        range("thenWay ? 0 0", 0, 60);
        range("thenWay 0 ? 0", 0, 2);
        range("thenWay 0 0 ?", 0, 6);
        Due.says(21, "FIRST LOSS by n (1 to 60). BEYOND.");
        range("loss ?", 1, 60);
        Due.says(23, "BEYOND.");
        range("mends ? 0 0", 0, 999);
        range("mends 0 ? 0", 0, 60);
        range("mends 0 0 ?", 0, 1);
        Due.says(24, "BEYOND: also i below -1.");
        range("hangs ? -1", 0, 60);
        range("hangs ? 0", 0, 60);
        Due.says(24, "NONE: there are not so many.");
        range("hangs 3 ?", -1, 0, BEYOND, NONE);
    }

    private static void theDoorAndTheVillage() {
        Due.says(25, "BEYOND.");
        range("dusk ? 0", 0, 11);
        range("dusk 0 ?", 0, 1439);
        Due.says(26, "BEYOND.");
        range("harm ?", 0, 1439);
        Due.says(28, "BEYOND.");
        for (int q = 1; q <= 9; q++) {
            letIn("odds ? 1 0", q, BEYOND);
            letIn("odds ? 1 0", 11 * q, BEYOND);
            refused(BEYOND, "odds " + (11 * q + 10) + " 1 0", "odds " + (q - 10) + " 1 0", "odds " + -q + " 1 0");
        }
        refused(BEYOND, "odds 0 1 0", "odds 10 1 0", "odds 90 1 0", "odds 100 1 0", "odds MIN 1 0", "odds MAX 1 0");
        range("odds 12 ? 0", 0, 12);
        range("odds 12 1 ?", 0, 1);
        Due.says(29, "BEYOND.");
        range("yard ? 1 2 1", 0, 5);
        range("yard 0 ? 2 1", 0, 99);
        range("yard 0 1 ? 1", 0, 99);
        range("yard 0 1 2 ?", 0, 1);
        Due.says(30, "BEYOND.");
        range("village ?", 0, 1);
        Due.says(31, "BEYOND: no such SHEET. NONE: it is missing.");
        range("off ?", 0, 3);
        refused(NONE, "off 3");
        Due.says(32, "BEYOND. NONE.");
        range("hungry ?", 0, 3);
        refused(NONE, "hungry 3");
    }

    private static void voicesAndSheets() {
        Due.says(34, "BEYOND.");
        range("voice ? 0 0", 0, 2);
        range("voice 0 ? 0", 0, 3);
        Due.says(35, "NONE: there is none such.");
        range("trace ?", 0, 12, NONE, NONE);
        Due.says(36, "BEYOND. STATE: n is below 0 (ahead of BEYOND of n).");
        range("sheet ? 8 1", 0, 3);
        for (int bits : new int[] {8, 16, 32}) {
            range("sheet 1 " + bits + " ?", 0, 40, STATE, BEYOND);
            int[] beside = {bits - 1, bits + 1, -bits, bits * 2 == 64 ? 64 : bits + 4};
            for (int other : beside) {
                refused(BEYOND, "sheet 1 " + other + " 1", "sheet 1 " + other + " -1");
            }
        }
        refused(BEYOND, "sheet 1 -1 0", "sheet 1 1 0", "sheet 1 MIN 0", "sheet 1 MAX 0");
        Due.says(37, "BEYOND: no such SHEET. NONE: it is missing. BEYOND: no such number.");
        range("put 0 ? 5", 0, 2);
        refused(BEYOND, "put -1 0 5", "put 4 0 5", "put MIN 0 5", "put MAX 0 5");
        refused(NONE, "put 3 0 5");
        Due.says(38, "BEYOND: n, i, or j is below 0, or they don't stand there.");
        range("move 0 ? 0 0 1", 0, 2);
        range("move 0 0 0 ? 1", 0, 2);
        range("move 0 0 0 0 ?", 0, 3);
        range("move 0 ? 0 0 0", 0, 3);
        range("move 0 0 0 ? 0", 0, 3);
        range("move 0 ? 0 0 2", 0, 1);
        range("move 0 0 0 ? 2", 0, 1);
        range("move 0 1 0 0 ?", 0, 2);
        range("move 0 0 0 1 ?", 0, 2);
        Due.says(38, "BEYOND: no such SHEET. NONE: one is missing. KIND: they are of unlike bits.");
        refused(BEYOND, "move -1 0 0 0 1", "move 4 0 0 0 1", "move 0 0 -1 0 1", "move 0 0 4 0 1", "move MIN 0 MAX 0 1");
        refused(NONE, "move 3 0 0 0 1", "move 0 0 3 0 1", "move 3 0 3 0 0");
        refused(KIND, "move 0 0 1 0 1", "move 1 0 0 0 1", "move 1 0 2 0 1", "move 2 0 0 0 0");
        Due.says(43, "BEYOND.");
        range("count ?", 0, 7);
        Due.says(44, "BEYOND: another k (counted, too).");
        range("told ?", 1, 5);
    }

    private static void ofABareObject() {
        house = Houses::bare;
        Due.says(4, "Of a WAY");
        refused(BEYOND, "ofWay 0 0", "wear 0 1 5", "as 0 0", "mend 0", "thenWay 0 0 0", "voice 0 0 0");
        Due.says(10, "Of a THING");
        refused(BEYOND, "ofThing 0 0", "hang 0 1");
        Due.says(7, "NONE: it is missing.");
        refused(NONE, "ways 0", "ways 1", "ways 2", "off 0", "hungry 2", "put 0 0 0", "move 0 0 0 0 0");
        Due.says(21, "NONE.");
        refused(NONE, "loss 1", "loss 60");
        Due.says(24, "NONE: there are not so many.");
        range("hangs 0 ?", -1, -1, BEYOND, NONE);
        Due.says(35, "NONE: there is none such.");
        refused(NONE, "trace 0", "trace -1", "trace 39", "trace 40");
        Due.says(40, "NONE: there is none.");
        refused(NONE, "restore");
    }

    private static void ofAFullObject() {
        house = Houses::full;
        Due.says(3, "BEYOND. FULL.");
        refused(FULL, "way 0 0 0", "way 6 9999 99");
        Due.says(9, "BEYOND. FULL.");
        refused(FULL, "thing 0 0", "thing 99 30");
        Due.says(14, "BEYOND. FULL.");
        refused(FULL, "feed 49 1", "feed 49 8");
        Due.says(17, "STATE: TONIGHT would be above 999.");
        refused(STATE, "nights 1", "nights 60");
        Due.says(18, "BEYOND, STATE likewise.");
        refused(STATE, "careless 1 0", "careless 60 100");
        Due.says(24, "STATE: more than 4 aren't hung up.");
        refused(STATE, "hangs 0 -1", "hangs 0 0", "hangs 60 4");
        Due.says(41, "FULL: 20 wait.");
        refused(FULL, "tell 0", "tell -1", "tell MAX");
        Due.says(37, "BEYOND: no such number.");
        range("put 0 ? 5", 0, 39);
        refused(BEYOND, "put 2 0 5", "put 2 -1 5");
        Due.says(4, "BEYOND.");
        range("ofWay ? 0", 0, 7);
        range("mend ?", 0, 7);
        range("ofThing ? 0", 0, 4);
        Due.says(38, "or they don't stand there.");
        range("move 0 0 0 0 ?", 0, 40);
        range("move 2 0 2 0 ?", 0, 0);
        range("move 2 ? 2 0 0", 0, 0);
    }

    /** Where two ERRORS would do, the one that is asked first. */
    private static void inOrder() {
        Due.says(0, "Each act tells its ERRORS in the order in which they are asked");
        house = Houses::full;
        refused(BEYOND, "way 7 0 0", "way 0 10000 0", "way 0 0 100", "way -1 0 0", "way 0 -1 0", "way 0 0 -1");
        refused(BEYOND, "thing 100 0", "thing 0 31", "thing -1 0", "thing 0 -1");
        refused(BEYOND, "feed 0 0", "feed 0 9");
        refused(BEYOND, "nights 0", "nights 61", "nights MAX");
        refused(BEYOND, "careless 0 0", "careless 61 0", "careless 1 -1", "careless 1 101");
        refused(BEYOND, "hangs -1 0", "hangs 61 0", "hangs 0 -2", "hangs 61 5");
        refused(STATE, "hangs 0 5", "hangs 0 MAX");
        house = Houses::lived;
        refused(BEYOND, "as 3 6", "as 0 7", "as -1 -1");
        refused(BEYOND, "hangs 61 1", "hangs -1 1");
        refused(BEYOND, "sheet 4 8 -1", "sheet -1 8 -1", "sheet 0 9 -1", "sheet 4 0 -1", "sheet 0 -8 41");
        refused(STATE, "sheet 3 8 -1", "sheet 3 16 MIN", "sheet 3 32 -41");
        refused(BEYOND, "put 4 -1 0", "put -1 0 0");
        refused(NONE, "put 3 -1 0", "put 3 40 0");
        refused(BEYOND, "move 4 0 3 0 1", "move 3 0 4 0 1", "move -1 0 3 0 -1", "move 3 0 -1 0 -1");
        refused(NONE, "move 3 -1 0 0 1", "move 0 0 3 0 -1", "move 0 0 3 0 99", "move 3 0 1 -1 1");
        refused(KIND, "move 0 -1 1 0 1", "move 0 0 1 -1 1", "move 0 0 1 0 -1", "move 1 0 2 0 99");
        house = RefusedTest::withoutLoss;
        refused(BEYOND, "loss 0", "loss 61");
        refused(NONE, "loss 1", "loss 60");
    }

    private static FoxRounds withoutLoss() {
        FoxRounds x = Houses.lived();
        x.set(0, 0);
        return x;
    }

    public static void main(String[] args) {
        waysAndThings();
        textsAndNights();
        ahead();
        theDoorAndTheVillage();
        voicesAndSheets();
        ofABareObject();
        ofAFullObject();
        inOrder();
        Due.end();
    }
}
