/** The edges of promises 25 to 32 and of what the Terms say of the CLOCK, ODDS, a VILLAGE and SIGNS. */
public final class VillageEdgesTest {
    private static void due(String call, long got, long want) {
        Due.due(call, got, want);
    }

    /** The same DUSK in all MONTHS. */
    private static FoxRounds evening(int dusk, int lag, int early) {
        FoxRounds x = new FoxRounds();
        for (int month = 0; month < 12; month++) {
            x.dusk(month, dusk);
        }
        x.set(6, lag);
        x.set(7, early);
        return x;
    }

    private static void dusk() {
        Due.says(0, "DUSK of 12 MONTHS (0 to 1439 each; 1080 at first)");
        FoxRounds x = new FoxRounds();
        for (int month = 0; month < 12; month++) {
            due("at first", x.dusk(month, month % 2 * 1439), 1080);
        }
        for (int month = 0; month < 12; month++) {
            due("each of its own", x.dusk(month, month), month % 2 * 1439);
        }
        Due.says(26, "HARM of a MINUTE.");
        x = evening(1439, 0, 0);
        for (int month = 0; month < 12; month++) {
            x.dusk(month, 0);
            due("a fox in so many MONTHS", x.harm(1439), 5 * (month + 1));
            due("a hen in the others", x.harm(0), 2 * (11 - month));
            due("both", x.harm(1), 5 * (month + 1) + 2 * (11 - month));
        }
    }

    private static void harm() {
        Due.says(0, "shuts out a hen in MONTHS in which the last hen is in later than it");
        FoxRounds x = evening(700, 120, 240);
        due("one MINUTE ahead of the last hen", x.harm(819), 24);
        due("as the last hen is in", x.harm(820), 0);
        Due.says(0, "lets in a fox in those in which it shuts later than a fox comes");
        due("as a fox comes", x.harm(940), 0);
        due("one MINUTE behind it", x.harm(941), 60);
        x = evening(700, 0, -120);
        due("as an early fox comes", x.harm(580), 24);
        due("one MINUTE behind it", x.harm(581), 84);
        due("as the last hen is in at DUSK", x.harm(699), 84);
        due("as the last hen is in at DUSK", x.harm(700), 60);
        x = evening(0, 0, -120);
        due("a fox from ahead of the first MINUTE on", x.harm(0), 60);
        x = evening(0, 0, 0);
        due("a fox from the first MINUTE on", x.harm(0), 0);
        due("a fox from the first MINUTE on", x.harm(1), 60);
        x = evening(1439, 120, 240);
        due("a hen behind the last MINUTE", x.harm(1439), 24);
        x = evening(1320, 120, 119);
        due("a hen one behind the last MINUTE", x.harm(1439), 24);
        x = evening(1319, 120, 119);
        due("a hen at the last MINUTE", x.harm(1439), 5 * 12);
        x = evening(1319, 120, 120);
        due("a hen and a fox at the last MINUTE", x.harm(1439), 0);
    }

    private static void clock() {
        Due.says(0, "BEST CLOCK: that (0 to 1439) of the least HARM; of several the earliest.");
        Due.says(27, "BEST CLOCK.");
        due("at first", new FoxRounds().clock(), 1100);
        due("from 820 to 940", evening(700, 120, 240).clock(), 820);
        due("only at 700", evening(700, 0, 0).clock(), 700);
        due("the last MINUTE", evening(1439, 0, 0).clock(), 1439);
        due("the last MINUTE", evening(1319, 120, 240).clock(), 1439);
        due("behind the last MINUTE", evening(1320, 120, 240).clock(), 0);
        due("the first MINUTE", evening(0, 0, 240).clock(), 0);
        due("the second MINUTE", evening(1, 0, 0).clock(), 1);
        due("the second MINUTE", evening(0, 1, 240).clock(), 1);
        due("a fox ahead of all MINUTES", evening(0, 0, -1).clock(), 0);
        due("a fox ahead of all MINUTES, a hen in at 120", evening(0, 120, -1).clock(), 120);
        due("a hen matters less than a fox", evening(200, 100, -50).clock(), 0);
        FoxRounds x = evening(600, 0, 0);
        x.dusk(0, 500);
        due("a fox in one MONTH for a hen in eleven", x.clock(), 600);
        for (int month = 1; month < 4; month++) {
            x.dusk(month, 500);
        }
        // 4 MONTHS of a fox are 20, 8 MONTHS of a hen 16.
        due("a hen in eight for a fox in four", x.clock(), 500);
    }

    private static void odds(int p, int q, int n, long above, long below) {
        FoxRounds x = new FoxRounds();
        String call = p + " of " + q + ", " + n + " NIGHTS";
        due(call + ", above", x.odds(10 * p + q, n, 0), above);
        due(call + ", below", x.odds(10 * p + q, n, 1), below);
        due("no ERROR", x.told(1), 0);
    }

    private static long power(long base, int n) {
        return n == 0 ? 1 : base * power(base, n - 1);
    }

    private static void odds() {
        Due.says(0, "ODDS that it isn't FORGOTTEN in n (0 to 12) NIGHTS, if it is with p of q (q 1 to 9, p 0 to q)");
        for (int q = 1; q <= 9; q++) {
            odds(0, q, 0, 1, 1);
            odds(0, q, 1, 1, 1);
            odds(0, q, 12, 1, 1);
            odds(q, q, 0, 1, 1);
            odds(q, q, 1, 0, 1);
            odds(q, q, 12, 0, 1);
        }
        Due.says(0, "a fraction in lowest terms");
        for (int q = 1; q <= 9; q++) {
            for (int p = 0; p < q; p++) {
                int common = 9;
                while ((q - p) % common != 0 || q % common != 0) {
                    common--;
                }
                for (int n : new int[] {0, 1, 2, 9, 10, 11, 12}) {
                    odds(p, q, n, power((q - p) / common, n), power(q / common, n));
                }
            }
        }
        odds(1, 9, 12, 68719476736L, 282429536481L);
        odds(3, 9, 12, 4096, 531441);
        odds(6, 8, 12, 1, 16777216);
        odds(2, 8, 12, 531441, 16777216);
    }

    /** PRICE, LOSS, shut of each yard in turn; those that aren't told stay shut for nothing. */
    private static void rests(int rounds, int shut, int... yards) {
        FoxRounds x = new FoxRounds();
        for (int i = 0; i < 6; i++) {
            boolean told = 3 * i < yards.length;
            x.yard(i, told ? yards[3 * i] : 0, told ? yards[3 * i + 1] : 99, told ? yards[3 * i + 2] : 1);
        }
        String call = java.util.Arrays.toString(yards);
        due("rounds of " + call, x.village(0), rounds);
        due("shut of " + call, x.village(1), shut);
        due("no ERROR", x.told(1), 0);
    }

    private static void village() {
        Due.says(0, "to none if all are shut");
        rests(1, 63);
        rests(2, 62, 1, 0, 1);
        Due.says(0, "each yard that would pay less by shutting (PRICE, and nothing else)");
        rests(2, 63, 8, 9, 0);
        rests(1, 62, 9, 9, 0);
        rests(1, 62, 10, 9, 0);
        rests(1, 62, 0, 0, 0);
        rests(2, 63, 0, 1, 0);
        rests(2, 63, 98, 99, 0);
        rests(1, 62, 99, 99, 0);
        Due.says(0, "by opening (LOSS, if the fox comes to it then, else nothing)");
        rests(1, 63, 8, 9, 1);
        rests(1, 63, 9, 9, 1);
        rests(2, 62, 10, 9, 1);
        rests(2, 62, 99, 98, 1);
        rests(1, 63, 0, 0, 1);
        rests(1, 63, 99, 99, 1);
        // Behind an open yard: open it pays nothing, whatever its LOSS.
        rests(1, 60, 9, 9, 0, 1, 99, 0);
        rests(2, 60, 9, 9, 0, 1, 99, 1);
        rests(1, 62, 9, 9, 0, 0, 99, 1);
        Due.says(0, "In turn from 0 on, again and again");
        rests(2, 63, 8, 9, 0, 1, 2, 0, 1, 2, 0, 1, 2, 0, 1, 2, 0, 1, 2, 0);
        rests(2, 0, 9, 8, 1, 1, 99, 1, 1, 99, 1, 1, 99, 1, 1, 99, 1, 1, 99, 1);
        rests(2, 31, 1, 2, 0, 1, 2, 0, 1, 2, 0, 1, 2, 0, 1, 2, 0, 2, 2, 0);
        rests(2, 31, 1, 2, 0, 1, 2, 0, 1, 2, 0, 1, 2, 0, 1, 2, 0, 3, 2, 1);
        Due.says(0, "till a whole round changes none: it RESTS; or 20 rounds are through");
        restsSoon();
        Due.says(30, "RESTS: what 0 how many rounds were gone through (the last one, that changes none, too)");
        due("at first", new FoxRounds().village(0), 1);
        due("at first", new FoxRounds().village(1), 0);
        Due.says(30, "Nothing changes.");
        FoxRounds x = new FoxRounds();
        x.yard(0, 1, 2, 0);
        due("rounds", x.village(0), 2);
        due("rounds again", x.village(0), 2);
        Due.says(29, "PRICE, LOSS of a yard (0 to 5), shut or open: its PRICE ahead.");
        for (int yard = 0; yard < 6; yard++) {
            due("PRICE at first", x.yard(yard, 90 + yard, 0, 1), yard == 0 ? 1 : 0);
        }
        for (int yard = 0; yard < 6; yard++) {
            due("PRICE of its own", x.yard(yard, 0, 0, 0), 90 + yard);
        }
    }

    /** What a yard does hangs on those ahead of it alone: 20 rounds are never gone through, but 2 at the most. */
    private static void restsSoon() {
        for (int i = 0; i < 18 * 18 * 18; i++) {
            FoxRounds x = new FoxRounds();
            int rest = i;
            for (int yard = 0; yard < 6; yard++) {
                x.yard(yard, rest % 3, rest / 3 % 3, rest / 9 % 2);
                rest = yard < 2 ? rest / 18 : rest / 18 + i * 7 + yard;
            }
            int rounds = x.village(0);
            if (rounds < 1 || rounds > 2) {
                Due.fault("village " + i + " rests in " + rounds);
            }
        }
    }

    private static FoxRounds signs(int hens, int bits, int... numbers) {
        FoxRounds x = new FoxRounds();
        x.set(0, hens);
        x.sheet(0, bits, numbers.length);
        for (int i = 0; i < numbers.length; i++) {
            x.put(0, i, numbers[i]);
        }
        return x;
    }

    private static void off() {
        Due.says(0, "OFF: differences, without sign, each held at 1000, together.");
        int min = Integer.MIN_VALUE;
        int max = Integer.MAX_VALUE;
        int[] numbers = {50, 51, 49, 1049, 1050, 1051, -949, -950, -951, max, min, min + 49, min + 50, min + 51, max - 1};
        int[] offs = {0, 1, 1, 999, 1000, 1000, 999, 1000, 1000, 1000, 1000, 1000, 1000, 1000, 1000};
        for (int i = 0; i < numbers.length; i++) {
            due("OFF by " + numbers[i], signs(50, 32, numbers[i]).off(0), offs[i]);
        }
        due("of no numbers", signs(50, 32).off(0), 0);
        int[] far = new int[40];
        java.util.Arrays.fill(far, min);
        due("of 40 numbers", signs(99, 32, far).off(0), 40000);
        due("of 40 numbers that are 0", signs(99, 8, new int[40]).off(0), 40 * 99);
        Due.says(0, "SIGNS: a SHEET whose numbers are HENS behind 1, 2, .. NIGHTS.");
        FoxRounds x = signs(11, 8, 11, 11, 11);
        Due.text(x, 0, "t=1");
        x.way(0, 0, 0);
        due("behind 2 NIGHTS", x.off(0), 6);
        x.put(0, 1, 8);
        due("behind 3 NIGHTS", x.off(0), 3);
        x.put(0, 2, 8);
        due("behind all", x.off(0), 0);
        for (int i = 0; i < 16; i++) {
            x.nights(60);
        }
        x.nights(39);
        due("beyond 999", x.off(0), 3);
    }

    private static void hungry(String enters, int hunger) {
        FoxRounds x = signs(11, 8, 10);
        Due.text(x, 0, enters);
        Due.text(x, 1, "1");
        x.way(0, 0, 0);
        due("HUNGRY by " + enters, x.hungry(0), hunger);
        due("HUNGER stays", x.set(2, 20), 20);
        due("HENS stay", x.set(0, 11), 11);
    }

    private static void hungry() {
        Due.says(0, "HUNGRY by SIGNS: the HUNGER (0 to 99) now by which they are OFF least; of several the least.");
        hungry("b=5", 0);
        hungry("b=6", 1);
        hungry("b=103", 98);
        hungry("b=104", 99);
        hungry("b=105", 0);
        hungry("b=4", 0);
        hungry("b>50", 46);
        hungry("b<50", 0);
        hungry("b=30|b=60|b=90", 25);
        due("of no numbers", signs(11, 16).hungry(0), 0);
        due("without WAYS", signs(11, 16, 5, 5).hungry(0), 0);
    }

    public static void main(String[] args) {
        dusk();
        harm();
        clock();
        odds();
        village();
        off();
        hungry();
        Due.end();
    }
}
