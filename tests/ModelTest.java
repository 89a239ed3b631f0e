/** Random runs, each call's answer beside the Model's; the draws are fixed. */
public final class ModelTest {
    private static final int RUNS = 400;
    private static final int CALLS = 300;
    private static final String[] TEXTS = {
        "e+b>99", "e>50", "b", "e+b+m*3-w>80|t%7=3", "!(b<20)&e>10", "h/2+1", "f*g-h", "g%5*f", "h-(f>2)", "0-3",
        "a-7", "a*9/10", "a-t%4", "9999*9999", "1/0+1%0", "!!!!!1", "((((((1", "12345", "1<2<3", "a+", "e b", "", "(1",
        "1)", "5-!h*3", "t>400&e>60", "m>w|b+e>120"};

    private static long z = 20261118;
    private static StringBuilder story;
    private static String call;
    private static long got;
    private static long want;

    private static int draw(int n) {
        z = z * 6364136223846793005L + 1442695040888963407L;
        return (int) ((z >>> 33) % n);
    }

    /** Mostly from low to high, now and then beside it. */
    private static int near(int low, int high) {
        switch (draw(24)) {
            case 0: return low - 1;
            case 1: return high + 1;
            case 2: return draw(4) == 0 ? Integer.MIN_VALUE + draw(3) : low;
            case 3: return draw(4) == 0 ? Integer.MAX_VALUE - draw(3) : high;
            default: return low + draw(high - low + 1);
        }
    }

    private static int any() {
        return draw(3) == 0 ? draw(200) - 100 : (int) ((long) draw(1 << 30) * 5 - (1L << 31));
    }

    private static void say(String name, int... arguments) {
        StringBuilder s = new StringBuilder(name).append('(');
        for (int i = 0; i < arguments.length; i++) {
            s.append(i == 0 ? "" : ", ").append(arguments[i]);
        }
        call = s.append(')').toString();
    }

    private static void ways(FoxRounds x, Model y) {
        int a;
        int b;
        int c;
        switch (draw(14)) {
            case 0:
                a = near(0, 7);
                int[][] bounds = {{0, 99}, {1, 4}, {0, 99}, {0, 99}, {0, 1}, {60, 900}, {0, 120}, {-120, 240}};
                int[] bound = a >= 0 && a <= 7 ? bounds[a] : bounds[0];
                b = near(bound[0], bound[1]);
                say("set", a, b);
                got = x.set(a, b);
                want = y.set(a, b);
                return;
            case 1: case 2: case 3:
                a = near(0, 6);
                b = draw(2) == 0 ? near(0, 9999) : near(6000, 9900);
                c = near(0, 99);
                say("way", a, b, c);
                got = x.way(a, b, c);
                want = y.way(a, b, c);
                return;
            case 4: case 5:
                a = near(0, 7);
                b = near(0, 6);
                say("ofWay", a, b);
                got = x.ofWay(a, b);
                want = y.ofWay(a, b);
                return;
            case 6:
                a = near(0, 7);
                b = draw(4) == 0 ? near(0, 6) : new int[] {1, 4, 5}[draw(3)];
                c = b == 5 ? near(0, 9) : near(0, 99);
                say("wear", a, b, c);
                got = x.wear(a, b, c);
                want = y.wear(a, b, c);
                return;
            case 7:
                a = near(0, 7);
                b = near(0, 6);
                say("as", a, b);
                got = x.as(a, b);
                want = y.as(a, b);
                return;
            case 8:
                a = near(0, 3);
                say("ways", a);
                got = x.ways(a);
                want = y.ways(a);
                return;
            case 9:
                a = near(0, 7);
                say("mend", a);
                got = x.mend(a);
                want = y.mend(a);
                return;
            case 10:
                a = near(0, 99);
                b = near(0, 30);
                say("thing", a, b);
                got = x.thing(a, b);
                want = y.thing(a, b);
                return;
            case 11:
                a = near(0, 4);
                b = near(0, 2);
                say("ofThing", a, b);
                got = x.ofThing(a, b);
                want = y.ofThing(a, b);
                return;
            case 12:
                a = near(0, 4);
                b = near(0, 1);
                say("hang", a, b);
                got = x.hang(a, b);
                want = y.hang(a, b);
                return;
            default:
                say(draw(2) == 0 ? "bold" : "bitten");
                got = call.equals("bold()") ? x.bold() : x.bitten();
                want = call.equals("bold()") ? y.bold() : y.bitten();
        }
    }

    private static void texts(FoxRounds x, Model y) {
        int a;
        int b;
        switch (draw(8)) {
            case 0:
                long word = ((long) any() << 32) ^ any();
                a = near(1, 8);
                call = "feed(" + word + "L, " + a + ")";
                got = x.feed(word, a);
                want = y.feed(word, a);
                return;
            case 1: case 2:
                feedText(x, y, draw(3) == 0 ? madeText() : TEXTS[draw(TEXTS.length)]);
                return;
            case 3: case 4:
                a = near(0, 2);
                say("text", a);
                got = x.text(a);
                want = y.text(a);
                return;
            case 5:
                a = near(0, 2);
                b = any();
                int c = any();
                int d = any();
                say("law", a, b, c, d);
                got = x.law(a, b, c, d);
                want = y.law(a, b, c, d);
                return;
            case 6:
                a = draw(4) == 0 ? near(1, 60) : 1 + draw(5);
                say("nights", a);
                got = x.nights(a);
                want = y.nights(a);
                return;
            default:
                a = draw(4) == 0 ? near(1, 60) : 1 + draw(5);
                b = near(0, 100);
                say("careless", a, b);
                got = x.careless(a, b);
                want = y.careless(a, b);
        }
    }

    /** Feeds a whole text, in words of eight bytes. */
    private static void feedText(FoxRounds x, Model y, String text) {
        for (int i = 0; i < text.length(); i += 8) {
            long word = 0;
            int n = Math.min(8, text.length() - i);
            for (int j = 0; j < n; j++) {
                word |= (long) text.charAt(i + j) << 8 * j;
            }
            call = "feed(" + word + "L, " + n + ")";
            got = x.feed(word, n);
            want = y.feed(word, n);
            if (got != want) {
                return;
            }
            story.append("x.").append(call).append("; ");
        }
        say("count", 4);
        got = x.count(4);
        want = y.count(4);
    }

    /** Signs one after the other, mostly such as can stand there. */
    private static String madeText() {
        StringBuilder s = new StringBuilder();
        String starts = "ebmwthfga0123456789!((";
        String follows = "|&<=>+-*/%)))";
        boolean due = true;
        int length = 1 + draw(24);
        for (int i = 0; i < length; i++) {
            boolean odd = draw(60) == 0;
            String from = due != odd ? starts : follows;
            char sign = from.charAt(draw(from.length()));
            s.append(sign);
            due = sign == '!' || sign == '(' || sign != ')' && follows.indexOf(sign) >= 0;
        }
        return s.toString();
    }

    private static void ahead(FoxRounds x, Model y) {
        int a = near(0, 60);
        int b;
        int c;
        switch (draw(8)) {
            case 0: case 1:
                b = near(0, 5);
                say("then", a, b);
                got = x.then(a, b);
                want = y.then(a, b);
                return;
            case 2:
                b = near(0, 7);
                c = near(0, 6);
                say("thenWay", a, b, c);
                got = x.thenWay(a, b, c);
                want = y.thenWay(a, b, c);
                return;
            case 3:
                say("loss", a);
                got = x.loss(a);
                want = y.loss(a);
                return;
            case 4:
                say("by");
                got = x.by();
                want = y.by();
                return;
            case 5:
                a = draw(2) == 0 ? near(0, 999) : near(0, 150);
                b = draw(3) == 0 ? near(0, 60) : draw(12);
                c = near(0, 1);
                say("mends", a, b, c);
                got = x.mends(a, b, c);
                want = y.mends(a, b, c);
                return;
            default:
                a = draw(2) == 0 ? a : draw(15);
                b = near(-1, 4);
                say("hangs", a, b);
                got = x.hangs(a, b);
                want = y.hangs(a, b);
        }
    }

    private static void door(FoxRounds x, Model y) {
        int a;
        int b;
        int c;
        int d;
        switch (draw(9)) {
            case 0:
                a = near(0, 11);
                b = draw(2) == 0 ? near(0, 1439) : near(1000, 1200);
                say("dusk", a, b);
                got = x.dusk(a, b);
                want = y.dusk(a, b);
                return;
            case 1:
                a = draw(2) == 0 ? near(0, 1439) : near(1000, 1200);
                say("harm", a);
                got = x.harm(a);
                want = y.harm(a);
                return;
            case 2:
                say("clock");
                got = x.clock();
                want = y.clock();
                return;
            case 3:
                a = near(0, 99);
                b = near(0, 12);
                c = near(0, 1);
                say("odds", a, b, c);
                got = x.odds(a, b, c);
                want = y.odds(a, b, c);
                return;
            case 4: case 5:
                a = near(0, 5);
                b = near(0, 99);
                c = near(0, 99);
                d = near(0, 1);
                say("yard", a, b, c, d);
                got = x.yard(a, b, c, d);
                want = y.yard(a, b, c, d);
                return;
            case 6:
                a = near(0, 1);
                say("village", a);
                got = x.village(a);
                want = y.village(a);
                return;
            case 7:
                a = near(0, 3);
                say("off", a);
                got = x.off(a);
                want = y.off(a);
                return;
            default:
                a = near(0, 3);
                say("hungry", a);
                got = x.hungry(a);
                want = y.hungry(a);
        }
    }

    private static void rest(FoxRounds x, Model y) {
        int a;
        int b;
        int c;
        int d;
        switch (draw(16)) {
            case 0:
                a = any();
                say("seed", a);
                got = x.seed(a);
                want = y.seed(a);
                return;
            case 1: case 2:
                a = near(0, 7);
                b = near(0, 3);
                c = any();
                say("voice", a, b, c);
                got = x.voice(a, b, c);
                want = y.voice(a, b, c);
                return;
            case 3:
                a = near(0, 12);
                say("trace", a);
                got = x.trace(a);
                want = y.trace(a);
                return;
            case 4: case 5:
                a = near(0, 3);
                b = draw(12) == 0 ? any() : new int[] {0, 8, 8, 16, 16, 32, 32}[draw(7)];
                c = draw(2) == 0 ? near(0, 40) : draw(14);
                say("sheet", a, b, c);
                got = x.sheet(a, b, c);
                want = y.sheet(a, b, c);
                return;
            case 6: case 7: case 8: case 9:
                a = near(0, 3);
                b = draw(2) == 0 ? near(0, 40) : draw(14);
                c = draw(8) == 0 ? any() : draw(b % 3 == 0 ? 8 : 130);
                say("put", a, b, c);
                got = x.put(a, b, c);
                want = y.put(a, b, c);
                return;
            case 10:
                a = near(0, 3);
                b = draw(2) == 0 ? near(0, 40) : draw(8);
                c = draw(2) == 0 ? a : near(0, 3);
                d = draw(2) == 0 ? near(0, 40) : draw(8);
                int e = draw(2) == 0 ? near(0, 40) : draw(8);
                say("move", a, b, c, d, e);
                got = x.move(a, b, c, d, e);
                want = y.move(a, b, c, d, e);
                return;
            case 11:
                boolean keeps = draw(2) == 0;
                say(keeps ? "image" : "restore");
                got = keeps ? x.image() : x.restore();
                want = keeps ? y.image() : y.restore();
                return;
            case 12: case 13:
                a = x.by();
                y.by();
                a = draw(3) == 0 ? near(-1, 7) : a;
                say("tell", a);
                got = x.tell(a);
                want = y.tell(a);
                return;
            case 14:
                say("check");
                got = x.check();
                want = y.check();
                return;
            default:
                a = near(0, 7);
                boolean counts = draw(2) == 0;
                say(counts ? "count" : "told", a);
                got = counts ? x.count(a) : x.told(a);
                want = counts ? y.count(a) : y.told(a);
        }
    }

    private static void oneCall(FoxRounds x, Model y) {
        switch (draw(9)) {
            case 0: case 1: ways(x, y); return;
            case 2: case 3: texts(x, y); return;
            case 4: ahead(x, y); return;
            case 5: case 6: door(x, y); return;
            default: rest(x, y);
        }
    }

    /** What stands after a run, through the calls that change nothing. */
    private static String state(FoxRounds x) {
        StringBuilder s = new StringBuilder();
        for (int w = 0; w < 8; w++) {
            for (int what = 0; what < 7; what++) {
                s.append(x.ofWay(w, what)).append(' ');
            }
        }
        for (int t = 0; t < 15; t++) {
            s.append(x.ofThing(t / 3, t % 3)).append(' ');
        }
        for (int what = 0; what < 8; what++) {
            s.append(x.count(what)).append(' ').append(x.then(0, what % 6)).append(' ');
        }
        return s.toString();
    }

    private static String state(Model y) {
        StringBuilder s = new StringBuilder();
        for (int w = 0; w < 8; w++) {
            for (int what = 0; what < 7; what++) {
                s.append(y.ofWay(w, what)).append(' ');
            }
        }
        for (int t = 0; t < 15; t++) {
            s.append(y.ofThing(t / 3, t % 3)).append(' ');
        }
        for (int what = 0; what < 8; what++) {
            s.append(y.count(what)).append(' ').append(y.then(0, what % 6)).append(' ');
        }
        return s.toString();
    }

    public static void main(String[] args) {
        int runs = args.length > 0 ? Integer.parseInt(args[0]) : RUNS;
        if (args.length > 1) {
            z = Long.parseLong(args[1]);
        }
        for (int run = 0; run < runs; run++) {
            FoxRounds x = new FoxRounds();
            Model y = new Model();
            story = new StringBuilder();
            for (int i = 0; i < CALLS; i++) {
                oneCall(x, y);
                if (got != want) {
                    System.out.println("run " + run + ": " + story + "x." + call);
                    System.out.println(call + " answered " + got + ", the Model's is " + want);
                    System.exit(1);
                }
                story.append("x.").append(call).append("; ");
            }
            if (!state(x).equals(state(y))) {
                System.out.println("run " + run + ": " + story);
                System.out.println(state(x) + "is not " + state(y));
                System.exit(1);
            }
        }
    }
}
