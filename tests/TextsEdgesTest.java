/** The edges of promises 14 to 16 and of what the Terms say of THE TAPE and TEXTS. */
public final class TextsEdgesTest {
    private static final int MIN = Integer.MIN_VALUE;
    private static final int MAX = Integer.MAX_VALUE;

    private static void due(String call, long got, long want) {
        Due.due(call, got, want);
    }

    /** What a TEXT of ENTERS gives with e, b, m. */
    private static void gives(String text, int e, int b, int m, int want) {
        FoxRounds x = new FoxRounds();
        due("text of " + text, Due.text(x, 0, text), 1);
        due(text + " with " + e + ", " + b + ", " + m, x.law(0, e, b, m), want);
    }

    private static void gives(String text, int want) {
        gives(text, 0, 0, 0, want);
    }

    private static void fault(int use, String text, int place) {
        FoxRounds x = new FoxRounds();
        due("text of " + text, Due.text(x, use, text), -10 - place);
        due("bytes behind it", x.count(4), 0);
        for (int k = 1; k <= 5; k++) {
            due("no ERROR", x.told(k), 0);
        }
    }

    private static String times(String text, int n) {
        return text.repeat(n);
    }

    private static void feed() {
        Due.says(14, "The n lowest bytes (1 .. 8) of a word, the lowest first, come to THE TAPE: how many there are.");
        FoxRounds x = new FoxRounds();
        due("one byte of eight", x.feed(0x3939393939393937L, 1), 1);
        due("a text", x.text(0), 1);
        due("it is 7", x.law(0, 0, 0, 0), 7);
        due("seven bytes of eight", x.feed(0x7f352b342d652b33L, 7), 7);
        due("a text", x.text(0), 1);
        due("it is 3+e-4+5", x.law(0, 9, 0, 0), 13);
        due("eight bytes", x.feed(0x30352b342d652b33L, 8), 8);
        due("a text", x.text(0), 1);
        due("it is 3+e-4+50", x.law(0, 9, 0, 0), 58);
        due("a byte above 127", x.feed(0xff, 1), 1);
        due("its FAULT", x.text(0), -10);
        due("eight bytes that are 0", x.feed(0, 8), 8);
        due("their FAULT", x.text(0), -10);
        due("eight bytes that are 255", x.feed(-1, 8), 8);
        due("bytes", x.count(4), 8);
    }

    private static void theTape() {
        Due.says(0, "TEXTS are read from THE TAPE (bytes, at most 50)");
        FoxRounds x = new FoxRounds();
        for (int n = 1; n <= 50; n++) {
            due("byte " + n, x.feed(n % 2 == 1 ? '1' : '+', 1), n);
        }
        due("25 times 1+ ends too early", x.text(0), -60);
        due("bytes", x.count(4), 0);
        Due.says(14, "FULL.");
        for (int room = 0; room <= 8; room++) {
            for (int n = 1; n <= 8; n++) {
                x = new FoxRounds();
                Due.feed(x, times("1", 50 - room));
                due(n + " with room for " + room, x.feed(0, n), n > room ? Due.FULL : 50 - room + n);
                due("bytes then", x.count(4), n > room ? 50 - room : 50 - room + n);
            }
        }
        Due.says(15, "THE TAPE, which is empty then, is the TEXT of a USE (0 to 2)");
        x = new FoxRounds();
        due("50 bytes", Due.text(x, 0, times("1+", 24) + "99"), 1);
        due("bytes behind it", x.count(4), 0);
        due("what it gives", x.law(0, 0, 0, 0), 24 + 99);
        due("50 bytes of NAMES", Due.text(x, 1, "(h)" + times("+f-g", 11) + "+99"), 1);
        due("what it gives", x.law(1, 900, 2, 1), 900);
        due("what it gives", x.law(1, 900, 0, 20), 900 - 220 + 99);
        due("50 bytes of 5 open", Due.text(x, 2, "a-(1+(2+(3+(4+(5*1)))))" + times("-1", 13) + "+"), -60);
        due("50 bytes of 5 open", Due.text(x, 2, "a-(1+(2+(3+(4+(5*1)))))" + times("+1", 12) + "+10"), 1);
        due("what it gives", x.law(2, 50, 0, 0), 57);
        due("50 bytes, a fault at the last", Due.text(x, 2, times("1+", 24) + "1!"), -59);
    }

    private static void numbers() {
        Due.says(0, "Q: a NUMBER of 1 to 4 digits");
        gives("0", 0);
        gives("9", 9);
        gives("0000", 0);
        gives("0001", 1);
        gives("9999", 9999);
        gives("10", 10);
        gives("100", 100);
        fault(0, "10000", 4);
        fault(0, "1+00001", 6);
        fault(0, "99999", 4);
        fault(0, "(12345)", 5);
        Due.says(0, "No blanks.");
        fault(0, " 1", 0);
        fault(0, "1 ", 1);
        fault(0, "1 +1", 1);
        fault(0, "1+ 1", 2);
        fault(0, "(1 )", 2);
        fault(0, "! 1", 1);
        fault(0, "1\t", 1);
    }

    private static void names() {
        Due.says(0, "NAMES e EASE, b BOLD, m MEMORY, w WEAR, t TONIGHT");
        Due.says(15, "-10 less the FAULT (no ERROR; the one ahead stays; THE TAPE is empty, too).");
        String[] names = {"ebmwt", "hfg", "at"};
        for (int use = 0; use < 3; use++) {
            for (int sign = 0; sign < 256; sign++) {
                boolean fits = names[use].indexOf(sign) >= 0 || sign >= '0' && sign <= '9';
                FoxRounds x = new FoxRounds();
                x.feed(sign, 1);
                boolean opens = sign == '!' || sign == '(';
                due("use " + use + " of the byte " + sign, x.text(use), fits ? 1 : opens ? -11 : -10);
                due("bytes", x.count(4), 0);
                x.feed('1' | sign << 8, 2);
                boolean joins = "|&<=>+-*/%".indexOf(sign) >= 0;
                boolean digit = sign >= '0' && sign <= '9';
                due("use " + use + " of 1 and the byte " + sign, x.text(use), digit ? 1 : joins ? -12 : -11);
            }
        }
        Due.says(15, "in place of one ahead: 1.");
        FoxRounds x = new FoxRounds();
        due("ENTERS", Due.text(x, 0, "5"), 1);
        due("KILLS", Due.text(x, 1, "6"), 1);
        due("STAYS", Due.text(x, 2, "7"), 1);
        due("ENTERS anew", Due.text(x, 0, "8"), 1);
        due("ENTERS gives", x.law(0, 0, 0, 0), 8);
        due("KILLS gives", x.law(1, 9, 0, 0), 6);
        due("STAYS gives", x.law(2, 0, 0, 0), 7);
        due("a FAULT", Due.text(x, 0, "9)"), -11);
        due("the one ahead stays", x.law(0, 0, 0, 0), 8);
    }

    private static void open() {
        Due.says(0, "At most 5 of ! and ( are open at once.");
        gives("!!!!!0", 1);
        gives("!!!!!7", 0);
        gives("(((((8)))))", 8);
        gives("!(!(!8))", 0);
        gives("(!(!(8)))", 1);
        fault(0, "!!!!!!", 5);
        fault(0, "((((((", 5);
        fault(0, "(!(!(!", 5);
        fault(0, "!(!(!(8)))", 5);
        fault(0, "(((((!", 5);
        fault(0, "!!!!!(", 5);
        gives("(((((8)))))+(((((9)))))", 17);
        gives("!!!!!0+!!!!!0", 2);
        gives("((((!0+!0+!0))))", 3);
        gives("((((!0)+(5))))", 6);
        fault(0, "((((!0)+(!(", 10);
        gives("(((!(0)+(!0))))", 2);
        fault(0, "((((!(", 5);
        gives("(((!(0))))", 1);
        fault(0, "(((((1)+(1)+((", 13);
        Due.says(0, "how many there are, if it ends too early");
        fault(0, "", 0);
        fault(1, "", 0);
        fault(2, "", 0);
        fault(0, "!", 1);
        fault(0, "(", 1);
        fault(0, "(((((", 5);
        fault(0, "(1", 2);
        fault(0, "((1)", 4);
        fault(0, "1|", 2);
        fault(0, "1&", 2);
        fault(0, "1<", 2);
        fault(0, "1=", 2);
        fault(0, "1>", 2);
        fault(0, "1+", 2);
        fault(0, "1-", 2);
        fault(0, "1*", 2);
        fault(0, "1/", 2);
        fault(0, "1%", 2);
        fault(0, times("(1)+", 12) + "(1", 50);
        Due.says(0, "FAULT: the place of the first byte with which no TEXT goes on");
        fault(0, times("1+", 24) + "1(", 49);
        fault(0, times("1+", 24) + "1+", 50);
        fault(0, times("1+", 24) + "+1", 48);
        fault(0, ")", 0);
        fault(0, "(1))", 3);
        fault(0, "1<2>3", 3);
        fault(0, "1<2+3*4=5", 7);
        fault(0, "1<2|3<4&5<6<7", 11);
        fault(0, "1<(2<3<4)", 6);
        gives("1<(2<(3<4))", 0);
    }

    /** Nothing is left over from one ahead, be it a TEXT or a FAULT. */
    private static void behindOneAhead() {
        Due.says(15, "in place of one ahead: 1. BEYOND (THE TAPE stays). -10 less the FAULT");
        String[] ahead = {"!", "!!!!!", "(((((", "1<", "1*", "1+(", "!(", "1|(2&!", "!0", "!(!0)", "1<2", "(1=2)", "1|0", "!!!!!!",
            "((((((", "1<2<3", "12345", ")", "(1))", "1>!0"};
        for (String first : ahead) {
            for (int use = 0; use < 3; use++) {
                FoxRounds x = new FoxRounds();
                Due.text(x, use, first);
                due("5 behind " + first, Due.text(x, 0, "5"), 1);
                due("is 5", x.law(0, 0, 0, 0), 5);
                Due.text(x, use, first);
                due("3<4 behind " + first, Due.text(x, 0, "3<4"), 1);
                due("is 1", x.law(0, 0, 0, 0), 1);
                Due.text(x, use, first);
                due("1) behind " + first, Due.text(x, 0, "1)"), -11);
                Due.text(x, use, first);
                due("!!!!!0 behind " + first, Due.text(x, 0, "!!!!!0"), 1);
                due("is 1", x.law(0, 0, 0, 0), 1);
                Due.text(x, use, first);
                due("!!!!!! behind " + first, Due.text(x, 0, "!!!!!!"), -15);
                Due.text(x, use, first);
                due("e*2+1 behind " + first, Due.text(x, 0, "e*2+1"), 1);
                due("is 15", x.law(0, 7, 0, 0), 15);
            }
        }
        gives("(1|0)&0", 0);
        gives("(0|1&0)+2", 2);
        gives("(1&0|1)*3", 3);
    }

    private static void wraps() {
        Due.says(0, "Ints that wrap");
        gives("e+b", MAX, 1, 0, MIN);
        gives("e+b", MIN, -1, 0, MAX);
        gives("e+b", MIN, MIN, 0, 0);
        gives("e-b", MIN, 1, 0, MAX);
        gives("e-b", MAX, -1, 0, MIN);
        gives("0-e", MIN, 0, 0, MIN);
        gives("e*b", MAX, 2, 0, -2);
        gives("e*b", MIN, -1, 0, MIN);
        gives("e*b", 65536, 65536, 0, 0);
        gives("9999*9999*9999*9999", (int) (9999L * 9999 * 9999 * 9999));
        gives("e/b", MIN, -1, 0, MIN);
        gives("e%b", MIN, -1, 0, 0);
        gives("e+b-m", MAX, 2, 3, MAX - 1);
        Due.says(0, "/ cut, % the rest that it leaves, both by 0 are 0");
        gives("e/b", 7, 2, 0, 3);
        gives("e/b", -7, 2, 0, -3);
        gives("e/b", 7, -2, 0, -3);
        gives("e/b", -7, -2, 0, 3);
        gives("e%b", 7, 2, 0, 1);
        gives("e%b", -7, 2, 0, -1);
        gives("e%b", 7, -2, 0, 1);
        gives("e%b", -7, -2, 0, -1);
        gives("e/b", 5, 0, 0, 0);
        gives("e%b", 5, 0, 0, 0);
        gives("e/b", MIN, 0, 0, 0);
        gives("e%b", MIN, 0, 0, 0);
        gives("0/0+0%0", 0);
        gives("5/(3-3)+4", 4);
        gives("6/4*4", 4);
        gives("7%4%2", 1);
        Due.says(0, "| & < = > ! are 1 or 0, what is not 0 being true");
        gives("e|b", MIN, 0, 0, 1);
        gives("e|b", 0, -1, 0, 1);
        gives("e|b", 0, 0, 0, 0);
        gives("e|b", 2, 4, 0, 1);
        gives("e&b", 2, 4, 0, 1);
        gives("e&b", MIN, 1, 0, 1);
        gives("e&b", 0, 1, 0, 0);
        gives("e&b", 1, 0, 0, 0);
        gives("!e", MIN, 0, 0, 0);
        gives("!e", -1, 0, 0, 0);
        gives("!e", 0, 0, 0, 1);
        gives("e<b", MIN, MAX, 0, 1);
        gives("e>b", MIN, MAX, 0, 0);
        gives("e>b", MAX, MIN, 0, 1);
        gives("e=b", MIN, MIN, 0, 1);
        gives("e=b", MIN, MAX, 0, 0);
        gives("e<b", -1, 0, 0, 1);
        gives("e<b", 0, 0, 0, 0);
        gives("e>b", 0, 0, 0, 0);
        Due.says(0, "all is worked out");
        gives("1|5/0", 1);
        gives("0&5%0", 0);
        gives("2|(e+1<e)", MAX, 0, 0, 1);
    }

    private static void laws() {
        Due.says(16, "What a USE gives with its NAMES in order as a, b, c");
        FoxRounds x = new FoxRounds();
        due("t", Due.text(x, 0, "e*9+b*3+m"), 1);
        due("ENTERS below the ERRORS", x.law(0, 0, 0, -1000000001), -1000000001);
        due("ENTERS, any number", x.law(0, 0, 0, MIN), MIN);
        due("ENTERS, any number", x.law(0, 0, 0, MAX), MAX);
        due("ENTERS in order", x.law(0, 1, 2, 3), 18);
        due("no ERROR", x.told(1), 0);
        Due.says(16, "(further ones 0; KILLS held within 0 to a)");
        due("t", Due.text(x, 0, "w|t"), 1);
        due("w, t", x.law(0, 1, 1, 1), 0);
        due("t", Due.text(x, 1, "g"), 1);
        int[] a = {0, 0, 0, 5, 5, 5, 5, 5, -1, -1, MIN, MIN, MAX, MAX};
        int[] g = {-1, 0, 1, -1, 0, 4, 5, 6, -1, 1, MIN, MAX, MAX, MIN};
        int[] w = {0, 0, 0, 0, 0, 4, 5, 5, 0, 0, 0, 0, MAX, 0};
        for (int i = 0; i < a.length; i++) {
            due("KILLS of " + a[i] + " with " + g[i], x.law(1, a[i], 0, g[i]), w[i]);
        }
        Due.says(0, "STAYS (how much of BITE is left a NIGHT on), NAMES a BITE, t TONIGHT; held within 0 to 99");
        due("t", Due.text(x, 2, "t"), 1);
        int[] t = {MIN, -1, 0, 1, 98, 99, 100, MAX};
        int[] left = {0, 0, 0, 1, 98, 99, 99, 99};
        for (int i = 0; i < t.length; i++) {
            due("STAYS with " + t[i], x.law(2, 50, t[i], 7), left[i]);
        }
    }

    public static void main(String[] args) {
        feed();
        theTape();
        numbers();
        names();
        open();
        behindOneAhead();
        wraps();
        laws();
        Due.end();
    }
}
