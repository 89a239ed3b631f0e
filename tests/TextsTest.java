/** Promises 14 to 16: THE TAPE, TEXTS and what they give. */
public final class TextsTest {
    private static final int BEYOND = Due.BEYOND;

    private static void due(String call, long got, long want) {
        Due.due(call, got, want);
    }

    /** What a TEXT of ENTERS gives with e, b, m. */
    private static int value(String text, int e, int b, int m) {
        FoxRounds x = new FoxRounds();
        due("15: text " + text, Due.text(x, 0, text), 1);
        return x.law(0, e, b, m);
    }

    private static void gives(String text, long want) {
        due("16: " + text, value(text, 7, -3, 2), want);
    }

    private static void fault(int use, String text, int place) {
        FoxRounds x = new FoxRounds();
        due("15: FAULT of " + text, Due.text(x, use, text), -10 - place);
        due("15: THE TAPE is empty", x.count(4), 0);
        due("15: no ERROR", x.told(1) + x.told(2) + x.told(3) + x.told(4) + x.told(5), 0);
        due("15: the one ahead stays", x.law(0, 50, 50, 0), 1);
        due("15: the one ahead stays", x.law(1, 9, 2, 51), 9);
        due("15: the one ahead stays", x.law(2, 60, 0, 0), 58);
    }

    private static void feed() {
        FoxRounds x = new FoxRounds();
        due("14: n 0", x.feed(0, 0), BEYOND);
        due("14: n 9", x.feed(0, 9), BEYOND);
        due("14: n -1", x.feed(0, -1), BEYOND);
        due("14: n far off", x.feed(0, Integer.MIN_VALUE), BEYOND);
        // e+1 and bytes above it that don't come
        due("14: three", x.feed(0xffff_ffff_ff31_2b65L, 3), 3);
        due("15: they are a text", x.text(0), 1);
        due("16: e+1", x.law(0, 4, 0, 0), 5);
        for (int i = 1; i <= 6; i++) {
            due("14: eight more", x.feed(0x3131313131313131L, 8), 8 * i);
        }
        due("14: no room for three", x.feed(0, 3), Due.FULL);
        due("14: BEYOND ahead of FULL", x.feed(0, 9), BEYOND);
        due("14: none came", x.count(4), 48);
        due("14: room for two", x.feed(0, 2), 50);
        due("14: no room", x.feed(0, 1), Due.FULL);
        due("15: use 3", x.text(3), BEYOND);
        due("15: use -1", x.text(-1), BEYOND);
        due("15: THE TAPE stays", x.count(4), 50);
        due("15: the fifth digit", x.text(1), -14);
        due("15: THE TAPE is empty", x.count(4), 0);
        due("14: all eight bytes", x.feed(0x3130303030302b61L, 8), 8);
        due("15: a+0000..", x.text(2), -16);
    }

    private static void values() {
        gives("0", 0);
        gives("9999", 9999);
        gives("0012", 12);
        gives("e", 7);
        gives("b", -3);
        gives("m", 2);
        gives("w", 0);
        gives("t", 0);
        gives("1+2*3", 7);
        gives("(1+2)*3", 9);
        gives("9-3-2", 4);
        gives("9-(3-2)", 8);
        gives("17/5*5", 15);
        gives("17%5*2", 4);
        gives("b*17/5", -10);
        gives("b*17%5", -1);
        gives("b*5/4", -3);
        gives("b*5%4", -3);
        gives("5/0+1", 1);
        gives("5%0+1", 1);
        gives("0/0", 0);
        gives("9999*9999*9999", -1027349969);
        gives("2<3", 1);
        gives("3<3", 0);
        gives("3=3", 1);
        gives("3=4", 0);
        gives("4>3", 1);
        gives("3>3", 0);
        gives("1+1<3*1", 1);
        gives("5|0", 1);
        gives("0|0", 0);
        gives("5&2", 1);
        gives("4&0", 0);
        gives("0-1&1", 1);
        gives("1|0&0", 1);
        gives("1|1&0", 1);
        gives("(1|1)&0", 0);
        gives("0&0|1", 1);
        gives("1=1&2=2", 1);
        gives("1=2|2=2", 1);
        gives("(1<2)<3", 1);
        gives("3>(2>1)", 1);
        gives("!0", 1);
        gives("!5", 0);
        gives("!!5", 1);
        gives("!5+1", 1);
        gives("!0*3", 3);
        gives("!(e=7)", 0);
        gives("!e=0", 1);
        gives("!!!!!0", 1);
        gives("(((((3)))))", 3);
        gives("!(!(!0))+!(!(1))", 2);
        gives("(1)+(2)+(3)+(4)+(5)+(6)", 21);
        gives("!0+!0+!0+!0+!0+!0+!0", 7);
        gives("1+1+1+1+1+1+1+1+1+1+1+1+1+1+1+1+1+1+1+1+1+1+1+1+9", 33);
        // -2147483648 / -1 wraps, and leaves nothing
        due("16: / wraps", value("(e-1)/b", Integer.MIN_VALUE + 1, -1, 0), Integer.MIN_VALUE);
        due("16: % leaves nothing", value("(e-1)%b", Integer.MIN_VALUE + 1, -1, 0), 0);
        due("16: + wraps", value("e+1", Integer.MAX_VALUE, 0, 0), Integer.MIN_VALUE);
        due("16: < doesn't", value("e<b", Integer.MIN_VALUE, Integer.MAX_VALUE, 0), 1);
    }

    private static void faults() {
        fault(0, "", 0);
        fault(0, " ", 0);
        fault(0, "e ", 1);
        fault(0, "e+", 2);
        fault(0, "e+*", 2);
        fault(0, "+1", 0);
        fault(0, "-1", 0);
        fault(0, "1--1", 2);
        fault(0, "ee", 1);
        fault(0, "1e", 1);
        fault(0, "e1", 1);
        fault(0, "h", 0);
        fault(0, "E", 0);
        fault(1, "e", 0);
        fault(1, "h+f+g+a", 6);
        fault(2, "b", 0);
        fault(2, "a+t+w", 4);
        fault(0, "12345", 4);
        fault(0, "00000", 4);
        fault(0, "1<2<3", 3);
        fault(0, "1<2=3", 3);
        fault(0, "1>2+3>4", 5);
        fault(0, "(1>2>3)", 4);
        fault(0, "1&2<3&4=5=6", 9);
        fault(0, "()", 1);
        fault(0, "(1", 2);
        fault(0, "1)", 1);
        fault(0, "(1))", 3);
        fault(0, "(1)(", 3);
        fault(0, "(1)2", 3);
        fault(0, "1(", 1);
        fault(0, "1!", 1);
        fault(0, "!", 1);
        fault(0, "!)", 1);
        fault(0, "!!!!!!0", 5);
        fault(0, "((((((0", 5);
        fault(0, "!(!(!(", 5);
        fault(0, "!!!!!", 5);
        fault(0, "!!!!!0+!!!!!!", 12);
        fault(0, "(!!!!0+!!!!!", 11);
        fault(0, "1||2", 2);
        fault(0, "1==2", 2);
        fault(0, "1|", 2);
        fault(0, "1,2", 1);
        fault(0, "1^2", 1);
        fault(0, "e+b>99\n", 6);
        fault(0, "1\0", 1);
        fault(0, "1+\u00e9", 2);
        fault(0, "\u00ff", 0);
        fault(0, "1+1+1+1+1+1+1+1+1+1+1+1+1+1+1+1+1+1+1+1+1+1+1+1+1+", 50);
    }

    private static void afterAFault() {
        FoxRounds x = new FoxRounds();
        due("15: (((((1+!", Due.text(x, 0, "(((((1+!"), -17);
        due("15: behind it", Due.text(x, 0, "!(e+1)"), 1);
        due("16: by that", x.law(0, 0, 0, 0), 0);
        due("15: 9*(", Due.text(x, 0, "9*("), -13);
        due("15: behind it", Due.text(x, 0, "2)"), -11);
        due("15: behind it", Due.text(x, 0, "2"), 1);
        due("16: by that", x.law(0, 0, 0, 0), 2);
    }

    private static void laws() {
        FoxRounds x = new FoxRounds();
        due("16: use 3", x.law(3, 0, 0, 0), BEYOND);
        due("16: use -1", x.law(-1, 0, 0, 0), BEYOND);
        due("16: ENTERS at first", x.law(0, 50, 50, 9), 1);
        due("16: ENTERS at first", x.law(0, 50, 49, 9), 0);
        due("16: KILLS at first", x.law(1, 99, 2, 50), 6);
        due("16: KILLS at first", x.law(1, 99, 2, 51), 9);
        due("16: KILLS held at HENS", x.law(1, 8, 2, 51), 8);
        due("16: KILLS of no HENS", x.law(1, 0, 4, 99), 0);
        due("16: KILLS held at 0", x.law(1, 8, -2, 0), 0);
        due("16: KILLS held at 0 below it", x.law(1, -8, 2, 51), 0);
        due("16: KILLS above 99", x.law(1, 1000, 300, 0), 900);
        due("16: STAYS at first", x.law(2, 99, 0, 0), 96);
        due("16: STAYS at first", x.law(2, 29, 0, 0), 29);
        due("16: STAYS held at 99", x.law(2, 900, 0, 0), 99);
        due("16: STAYS held at 0", x.law(2, -900, 0, 0), 0);
        due("15: of w and t", Due.text(x, 0, "m*100+w*10+t"), 1);
        due("16: w and t are 0", x.law(0, 5, 5, 5), 500);
        due("15: of t", Due.text(x, 2, "t*2+a"), 1);
        due("16: t is b", x.law(2, 3, 4, 9), 11);
        due("15: of all", Due.text(x, 1, "h*100+f*10+g"), 1);
        due("16: all three", x.law(1, Integer.MAX_VALUE, 0, 7), 0);
        due("15: of f, g", Due.text(x, 1, "f*10+g"), 1);
        due("16: f, g", x.law(1, 999, 2, 3), 23);
        due("15: in place of that", Due.text(x, 1, "1"), 1);
        due("16: 1", x.law(1, 999, 2, 3), 1);
    }

    public static void main(String[] args) {
        feed();
        values();
        faults();
        afterAFault();
        laws();
        Due.end();
    }
}
