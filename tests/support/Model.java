import java.math.BigInteger;
import java.util.ArrayList;
import java.util.Arrays;
import java.util.Comparator;
import java.util.List;

/** The document once more, written for plainness alone: with objects, lists and copies as they come. */
final class Model {
    /** An act's ERROR, on its way out. */
    private static final class Refused extends RuntimeException {
        final int k;

        Refused(int k) {
            this.k = k;
        }
    }

    interface Act {
        long answer();
    }

    // ---- WAYS as a tree of classes, with EASE and VOICES as Java itself looks them up

    static class Way {
        int n;
        int strong;
        int m;
        int cost;
        int wear;
        int memory;
        List<Integer> trace = new ArrayList<>();

        int kind() {
            return 0;
        }

        int ease(Now now) {
            return 99 - strong;
        }

        int tries(int x) {
            trace.add(10);
            return x + n;
        }

        int fears(int x) {
            trace.add(11);
            return tries(x) * 2;
        }

        int shuts(int x) {
            trace.add(12);
            return x - m;
        }

        int tells(int x) {
            trace.add(13);
            return fears(x) ^ shuts(x);
        }
    }

    static class Door extends Way {
        int kind() {
            return 1;
        }

        int ease(Now now) {
            return now.numbers[4] == 1 ? 99 : super.ease(now);
        }

        int fears(int x) {
            trace.add(20);
            return super.fears(x) - shuts(1);
        }
    }

    static class Dug extends Way {
        int kind() {
            return 2;
        }

        int ease(Now now) {
            int ease = super.ease(now) + 3 * wear;
            return List.of(0, 1, 11).contains(now.month()) ? ease - 20 : ease;
        }

        int tries(int x) {
            trace.add(30);
            return super.tries(x) * 3;
        }
    }

    static class Loose extends Way {
        int kind() {
            return 3;
        }

        int ease(Now now) {
            return super.ease(now) + 5 * wear;
        }

        int shuts(int x) {
            trace.add(40);
            return -super.shuts(x);
        }
    }

    static class Skirted extends Dug {
        int kind() {
            return 4;
        }

        int ease(Now now) {
            return super.ease(now) - m;
        }

        int tries(int x) {
            trace.add(50);
            return super.tries(x + 1);
        }
    }

    static class Torn extends Loose {
        int kind() {
            return 5;
        }

        int ease(Now now) {
            return super.ease(now) + m;
        }

        int tells(int x) {
            trace.add(60);
            return super.tells(x) - tries(2);
        }
    }

    static class Clocked extends Door {
        int kind() {
            return 6;
        }

        int ease(Now now) {
            return List.of(5, 6, 7).contains(now.month()) ? super.ease(now) - m : super.ease(now);
        }

        int fears(int x) {
            trace.add(70);
            return super.fears(x) ^ n;
        }

        int tells(int x) {
            trace.add(71);
            return fears(x) - super.tells(x);
        }
    }

    static Way madeOf(int kind) {
        switch (kind) {
            case 1: return new Door();
            case 2: return new Dug();
            case 3: return new Loose();
            case 4: return new Skirted();
            case 5: return new Torn();
            case 6: return new Clocked();
            default: return new Way();
        }
    }

    static final class Thing {
        int fright;
        int fades;
        int hung;
    }

    // ---- all that an IMAGE keeps

    static final class Now {
        // HENS, FOXES, HUNGER, BITE, FORGOTTEN, LONG, LAG, EARLY
        int[] numbers = {11, 1, 20, 0, 0, 480, 20, 30};
        int tonight;
        int killed;
        List<Way> ways = new ArrayList<>();
        List<Thing> things = new ArrayList<>();
        String[] texts = {"e+b>99", "f*3+(g>50)*3", "a-a/30"};
        String tape = "";
        List<Integer> waits = new ArrayList<>();
        int[] dusk = new int[12];
        int[][] yards = new int[6][3];
        int z = 1;
        int by = -1;

        Now() {
            Arrays.fill(dusk, 1080);
        }

        Now copy() {
            Now c = new Now();
            c.numbers = numbers.clone();
            c.tonight = tonight;
            c.killed = killed;
            for (Way w : ways) {
                Way v = madeOf(w.kind());
                v.n = w.n;
                v.strong = w.strong;
                v.m = w.m;
                v.cost = w.cost;
                v.wear = w.wear;
                v.memory = w.memory;
                c.ways.add(v);
            }
            for (Thing t : things) {
                Thing u = new Thing();
                u.fright = t.fright;
                u.fades = t.fades;
                u.hung = t.hung;
                c.things.add(u);
            }
            c.texts = texts.clone();
            c.tape = tape;
            c.waits = new ArrayList<>(waits);
            c.dusk = dusk.clone();
            for (int i = 0; i < 6; i++) {
                c.yards[i] = yards[i].clone();
            }
            c.z = z;
            return c;
        }

        int month() {
            return (tonight / 30) % 12;
        }

        int fear() {
            return numbers[3] + things.stream().filter(t -> t.hung == 1).mapToInt(t -> t.fright).sum();
        }

        int bold() {
            return numbers[2] - fear() + 5 * numbers[1];
        }

        int use(int use, int... values) {
            int v = new Worker(texts[use], NAMES[use], values).all();
            if (use == 0) {
                return v;
            }
            int top = use == 1 ? values[0] : 99;
            if (v > top) {
                v = top;
            }
            return v < 0 ? 0 : v;
        }

        Now night() {
            by = -1;
            List<Way> order = new ArrayList<>(ways);
            order.sort(Comparator.comparingInt((Way w) -> -w.memory).thenComparingInt(w -> w.n));
            int minutes = 0;
            for (Way w : numbers[0] == 0 ? new ArrayList<Way>() : order) {
                minutes += 20 + w.strong / 2;
                if (minutes > numbers[5]) {
                    break;
                }
                int e = w.ease(this);
                int b = bold();
                if (use(0, e, b, w.memory, w.wear, tonight) != 0) {
                    int dead = use(1, numbers[0], numbers[1], numbers[2]);
                    numbers[0] -= dead;
                    killed += dead;
                    numbers[2] = Math.max(numbers[2] - dead * 10, 0);
                    w.memory = 9;
                    by = w.n;
                    break;
                }
                w.wear = w.wear == 99 ? 99 : w.wear + 1;
                if (e + b >= 70) {
                    w.memory = w.memory == 9 ? 9 : w.memory + 1;
                } else {
                    w.memory = w.memory == 0 ? 0 : w.memory - 1;
                }
            }
            if (by == -1) {
                numbers[2] = Math.min(numbers[2] + 5, 99);
            }
            for (Thing t : things) {
                if (t.hung == 1) {
                    t.fright = Math.max(t.fright - t.fades, 0);
                }
            }
            numbers[3] = use(2, numbers[3], tonight);
            numbers[4] = 0;
            tonight++;
            return this;
        }

        Now ahead(int n) {
            Now then = copy();
            for (int i = 0; i < n; i++) {
                then.night();
            }
            return then;
        }

        int ofWay(int way, int what) {
            Way w = ways.get(way);
            return new int[] {w.kind(), w.strong, w.m, w.cost, w.wear, w.memory, w.ease(this)}[what];
        }

        void addWay(int kind, int sm, int cost) {
            Way w = madeOf(kind);
            w.n = ways.size();
            w.strong = sm / 100;
            w.m = sm % 100;
            w.cost = cost;
            ways.add(w);
        }

        int harm(int minute) {
            int harm = 0;
            for (int d : dusk) {
                harm += (d + numbers[6] > minute ? 2 : 0) + (minute > d + numbers[7] ? 5 : 0);
            }
            return harm;
        }
    }

    static final String[] NAMES = {"ebmwt", "hfg", "at"};

    // ---- TEXTS, worked out byte by byte as the grammar goes down

    static final class Worker {
        private static final class Fault extends RuntimeException {
        }

        private final String text;
        private final String names;
        private final int[] values;
        int at = 0;
        int open = 0;

        Worker(String text, String names, int[] values) {
            this.text = text;
            this.names = names;
            this.values = values;
        }

        /** -1, if there is none. */
        int fault() {
            try {
                t();
            } catch (Fault f) {
                return at;
            }
            return at == text.length() ? -1 : at;
        }

        int all() {
            return t();
        }

        private boolean next(String signs) {
            return at < text.length() && signs.indexOf(text.charAt(at)) >= 0;
        }

        private int t() {
            int v = a();
            while (next("|")) {
                at++;
                int w = a();
                v = (v != 0) | (w != 0) ? 1 : 0;
            }
            return v;
        }

        private int a() {
            int v = b();
            while (next("&")) {
                at++;
                int w = b();
                v = (v != 0) & (w != 0) ? 1 : 0;
            }
            return v;
        }

        private int b() {
            int v = s();
            if (!next("<=>")) {
                return v;
            }
            char sign = text.charAt(at++);
            int w = s();
            boolean is = sign == '<' ? v < w : sign == '=' ? v == w : v > w;
            return is ? 1 : 0;
        }

        private int s() {
            int v = p();
            while (next("+-")) {
                char sign = text.charAt(at++);
                int w = p();
                v = sign == '+' ? v + w : v - w;
            }
            return v;
        }

        private int p() {
            int v = q();
            while (next("*/%")) {
                char sign = text.charAt(at++);
                int w = q();
                if (sign == '*') {
                    v *= w;
                } else if (w == 0) {
                    v = 0;
                } else {
                    v = sign == '/' ? v / w : v % w;
                }
            }
            return v;
        }

        private int q() {
            if (next("0123456789")) {
                int from = at;
                while (next("0123456789") && at - from < 4) {
                    at++;
                }
                return Integer.parseInt(text.substring(from, at));
            }
            if (next(names)) {
                int name = names.indexOf(text.charAt(at++));
                return name < values.length ? values[name] : 0;
            }
            if (!next("!(") || open == 5) {
                throw new Fault();
            }
            open++;
            int v;
            if (text.charAt(at++) == '!') {
                v = q() == 0 ? 1 : 0;
            } else {
                v = t();
                if (!next(")")) {
                    throw new Fault();
                }
                at++;
            }
            open--;
            return v;
        }
    }

    // ---- the object

    private Now now = new Now();
    private Now image = null;
    private int images = 0;
    private final Object[] sheets = new Object[4];
    private List<Integer> trace = new ArrayList<>();
    private final int[] told = new int[6];

    private static void ask(boolean is, int k) {
        if (!is) {
            throw new Refused(k);
        }
    }

    private static boolean in(int v, int low, int high) {
        return low <= v && v <= high;
    }

    private long act(Act act) {
        try {
            return act.answer();
        } catch (Refused r) {
            told[r.k]++;
            return -1000000000L - r.k;
        }
    }

    private boolean isWay(int w) {
        return in(w, 0, now.ways.size() - 1);
    }

    private boolean isThing(int t) {
        return in(t, 0, now.things.size() - 1);
    }

    private int length(int sheet) {
        Object s = sheets[sheet];
        return s instanceof byte[] ? ((byte[]) s).length
                : s instanceof short[] ? ((short[]) s).length : ((int[]) s).length;
    }

    private int number(int sheet, int i) {
        Object s = sheets[sheet];
        return s instanceof byte[] ? ((byte[]) s)[i] : s instanceof short[] ? ((short[]) s)[i] : ((int[]) s)[i];
    }

    private void askSheet(int sheet) {
        ask(in(sheet, 0, 3), 1);
        ask(sheets[sheet] != null, 2);
    }

    long set(int what, int v) {
        return act(() -> {
            ask(in(what, 0, 7), 1);
            int[][] bounds = {{0, 99}, {1, 4}, {0, 99}, {0, 99}, {0, 1}, {60, 900}, {0, 120}, {-120, 240}};
            ask(in(v, bounds[what][0], bounds[what][1]), 1);
            int was = now.numbers[what];
            now.numbers[what] = v;
            return was;
        });
    }

    private static boolean wayFits(int kind, int sm, int cost) {
        return in(kind, 0, 6) && in(sm, 0, 9999) && in(cost, 0, 99);
    }

    long way(int kind, int sm, int cost) {
        return act(() -> {
            ask(wayFits(kind, sm, cost), 1);
            ask(now.ways.size() < 8, 4);
            now.addWay(kind, sm, cost);
            return now.ways.size() - 1;
        });
    }

    long ofWay(int way, int what) {
        return act(() -> {
            ask(isWay(way) && in(what, 0, 6), 1);
            return now.ofWay(way, what);
        });
    }

    long wear(int way, int what, int v) {
        return act(() -> {
            ask(isWay(way) && (what == 1 || what == 4 || what == 5), 1);
            ask(in(v, 0, what == 5 ? 9 : 99), 1);
            int was = now.ofWay(way, what);
            Way w = now.ways.get(way);
            if (what == 1) {
                w.strong = v;
            } else if (what == 4) {
                w.wear = v;
            } else {
                w.memory = v;
            }
            return was;
        });
    }

    long as(int way, int kind) {
        return act(() -> {
            ask(isWay(way) && in(kind, 0, 6), 1);
            Way w = now.ways.get(way);
            ask(madeOf(kind).getClass().isInstance(w), 5);
            return w.strong;
        });
    }

    long ways(int sheet) {
        return act(() -> {
            askSheet(sheet);
            int came = 0;
            while (3 * came + 3 <= length(sheet) && now.ways.size() < 8
                    && wayFits(number(sheet, 3 * came), number(sheet, 3 * came + 1), number(sheet, 3 * came + 2))) {
                now.addWay(number(sheet, 3 * came), number(sheet, 3 * came + 1), number(sheet, 3 * came + 2));
                came++;
            }
            return came;
        });
    }

    private static void mend(Way w) {
        w.strong = Math.min(w.strong + 50, 99);
        w.wear = 0;
    }

    long mend(int way) {
        return act(() -> {
            ask(isWay(way), 1);
            mend(now.ways.get(way));
            return now.ways.get(way).strong;
        });
    }

    long thing(int fright, int fades) {
        return act(() -> {
            ask(in(fright, 0, 99) && in(fades, 0, 30), 1);
            ask(now.things.size() < 5, 4);
            Thing t = new Thing();
            t.fright = fright;
            t.fades = fades;
            now.things.add(t);
            return now.things.size() - 1;
        });
    }

    long ofThing(int thing, int what) {
        return act(() -> {
            ask(isThing(thing) && in(what, 0, 2), 1);
            Thing t = now.things.get(thing);
            return what == 0 ? t.fright : what == 1 ? t.fades : t.hung;
        });
    }

    long hang(int thing, int is) {
        return act(() -> {
            ask(isThing(thing) && in(is, 0, 1), 1);
            int was = now.things.get(thing).hung;
            now.things.get(thing).hung = is;
            return was;
        });
    }

    long bitten() {
        return set(3, 99);
    }

    long bold() {
        return now.bold();
    }

    long feed(long word, int n) {
        return act(() -> {
            ask(in(n, 1, 8), 1);
            ask(now.tape.length() + n <= 50, 4);
            for (int i = 0; i < n; i++) {
                now.tape += (char) (word >> 8 * i & 255);
            }
            return now.tape.length();
        });
    }

    long text(int use) {
        return act(() -> {
            ask(in(use, 0, 2), 1);
            String tape = now.tape;
            now.tape = "";
            int fault = new Worker(tape, NAMES[use], new int[0]).fault();
            if (fault >= 0) {
                return -10 - fault;
            }
            now.texts[use] = tape;
            return 1;
        });
    }

    long law(int use, int a, int b, int c) {
        return act(() -> {
            ask(in(use, 0, 2), 1);
            return now.use(use, a, b, c);
        });
    }

    long nights(int n) {
        return act(() -> {
            ask(in(n, 1, 60), 1);
            ask(now.tonight + n <= 999, 3);
            for (int i = 0; i < n; i++) {
                now.night();
            }
            return now.numbers[0];
        });
    }

    long careless(int n, int careless) {
        return act(() -> {
            ask(in(n, 1, 60) && in(careless, 0, 100), 1);
            ask(now.tonight + n <= 999, 3);
            for (int i = 0; i < n; i++) {
                now.z = now.z * 1103515245 + 12345;
                if ((now.z >>> 8) % 100 < careless) {
                    now.numbers[4] = 1;
                }
                now.night();
            }
            return now.numbers[0];
        });
    }

    long then(int n, int what) {
        return act(() -> {
            ask(in(n, 0, 60) && in(what, 0, 5), 1);
            Now then = now.ahead(n);
            int[] numbers = {then.numbers[0], then.killed, then.numbers[2], then.numbers[3], then.fear(), then.bold()};
            return numbers[what];
        });
    }

    long thenWay(int n, int way, int what) {
        return act(() -> {
            ask(in(n, 0, 60) && isWay(way) && in(what, 0, 6), 1);
            return now.ahead(n).ofWay(way, what);
        });
    }

    long loss(int n) {
        return act(() -> {
            ask(in(n, 1, 60), 1);
            for (int i = 1; i <= n; i++) {
                if (now.ahead(i).killed > now.killed) {
                    return i;
                }
            }
            throw new Refused(2);
        });
    }

    long by() {
        return now.ahead(1).by;
    }

    long mends(int c, int n, int what) {
        return act(() -> {
            ask(in(c, 0, 999) && in(n, 0, 60) && in(what, 0, 1), 1);
            List<int[]> found = new ArrayList<>();
            for (int set = 0; set < 1 << now.ways.size(); set++) {
                Now then = now.copy();
                int cost = 0;
                for (Way w : then.ways) {
                    if ((set & 1 << w.n) != 0) {
                        cost += w.cost;
                        mend(w);
                    }
                }
                if (cost <= c) {
                    found.add(new int[] {-then.ahead(n).numbers[0], cost, set});
                }
            }
            found.sort((f, g) -> Arrays.compare(f, g));
            return what == 0 ? found.get(0)[2] : -found.get(0)[0];
        });
    }

    private int hens(List<Integer> order, int n) {
        Now then = now.copy();
        for (int i = 0; i < n; i++) {
            if (i < order.size()) {
                then.things.get(order.get(i)).hung = 1;
            }
            then.night();
        }
        return then.numbers[0];
    }

    private void orders(List<Integer> begun, List<Integer> rest, List<List<Integer>> to) {
        if (rest.isEmpty()) {
            to.add(begun);
        }
        for (Integer t : rest) {
            List<Integer> more = new ArrayList<>(begun);
            more.add(t);
            List<Integer> less = new ArrayList<>(rest);
            less.remove(t);
            orders(more, less, to);
        }
    }

    long hangs(int n, int i) {
        return act(() -> {
            ask(in(n, 0, 60) && i >= -1, 1);
            List<Integer> idle = new ArrayList<>();
            for (int t = 0; t < now.things.size(); t++) {
                if (now.things.get(t).hung == 0) {
                    idle.add(t);
                }
            }
            ask(idle.size() <= 4, 3);
            ask(i < idle.size(), 2);
            List<List<Integer>> orders = new ArrayList<>();
            orders(new ArrayList<>(), idle, orders);
            List<Integer> best = orders.get(0);
            for (List<Integer> order : orders) {
                if (hens(order, n) > hens(best, n)) {
                    best = order;
                }
            }
            return i == -1 ? hens(best, n) : best.get(i);
        });
    }

    long dusk(int month, int v) {
        return act(() -> {
            ask(in(month, 0, 11) && in(v, 0, 1439), 1);
            int was = now.dusk[month];
            now.dusk[month] = v;
            return was;
        });
    }

    long harm(int minute) {
        return act(() -> {
            ask(in(minute, 0, 1439), 1);
            return now.harm(minute);
        });
    }

    long clock() {
        int best = 1439;
        for (int minute = 1439; minute >= 0; minute--) {
            if (now.harm(minute) <= now.harm(best)) {
                best = minute;
            }
        }
        return best;
    }

    long odds(int pq, int n, int part) {
        return act(() -> {
            int q = pq % 10;
            int p = (pq - q) / 10;
            ask(in(q, 1, 9) && in(p, 0, q) && in(n, 0, 12) && in(part, 0, 1), 1);
            BigInteger above = BigInteger.valueOf(q - p).pow(n);
            BigInteger below = BigInteger.valueOf(q).pow(n);
            BigInteger common = above.gcd(below);
            return (part == 0 ? above : below).divide(common).longValueExact();
        });
    }

    long yard(int yard, int price, int loss, int shut) {
        return act(() -> {
            ask(in(yard, 0, 5) && in(price, 0, 99) && in(loss, 0, 99) && in(shut, 0, 1), 1);
            int was = now.yards[yard][0];
            now.yards[yard] = new int[] {price, loss, shut};
            return was;
        });
    }

    private static int pays(int[][] yards, int i) {
        if (yards[i][2] == 1) {
            return yards[i][0];
        }
        for (int j = 0; j < i; j++) {
            if (yards[j][2] == 0) {
                return 0;
            }
        }
        return yards[i][1];
    }

    long village(int what) {
        return act(() -> {
            ask(in(what, 0, 1), 1);
            int[][] yards = now.copy().yards;
            int rounds = 0;
            boolean changed = true;
            while (changed && rounds < 20) {
                changed = false;
                rounds++;
                for (int i = 0; i < 6; i++) {
                    int as = pays(yards, i);
                    yards[i][2] ^= 1;
                    if (pays(yards, i) < as) {
                        changed = true;
                    } else {
                        yards[i][2] ^= 1;
                    }
                }
            }
            int bits = 0;
            for (int i = 5; i >= 0; i--) {
                bits = 2 * bits + yards[i][2];
            }
            return what == 1 ? bits : changed ? -1 : rounds;
        });
    }

    private int off(int sheet, int hunger) {
        Now from = now.copy();
        from.numbers[2] = hunger;
        BigInteger off = BigInteger.ZERO;
        for (int i = 0; i < length(sheet); i++) {
            from.night();
            BigInteger apart = BigInteger.valueOf(number(sheet, i)).subtract(BigInteger.valueOf(from.numbers[0])).abs();
            off = off.add(apart.min(BigInteger.valueOf(1000)));
        }
        return off.intValueExact();
    }

    long off(int sheet) {
        return act(() -> {
            askSheet(sheet);
            return off(sheet, now.numbers[2]);
        });
    }

    long hungry(int sheet) {
        return act(() -> {
            askSheet(sheet);
            int best = 99;
            int least = off(sheet, 99);
            for (int hunger = 98; hunger >= 0; hunger--) {
                int off = off(sheet, hunger);
                if (off <= least) {
                    best = hunger;
                    least = off;
                }
            }
            return best;
        });
    }

    long seed(int v) {
        int was = now.z;
        now.z = v;
        return was;
    }

    long voice(int way, int act, int x) {
        return act(() -> {
            ask(isWay(way) && in(act, 0, 3), 1);
            Way w = now.ways.get(way);
            w.trace = new ArrayList<>();
            int told = act == 0 ? w.tries(x) : act == 1 ? w.fears(x) : act == 2 ? w.shuts(x) : w.tells(x);
            trace = w.trace.subList(0, Math.min(40, w.trace.size()));
            return told;
        });
    }

    long trace(int i) {
        return act(() -> {
            ask(in(i, 0, trace.size() - 1), 2);
            return trace.get(i);
        });
    }

    long sheet(int sheet, int bits, int n) {
        return act(() -> {
            ask(in(sheet, 0, 3) && List.of(0, 8, 16, 32).contains(bits), 1);
            if (bits == 0) {
                sheets[sheet] = null;
                return 1;
            }
            ask(n >= 0, 3);
            ask(n <= 40, 1);
            sheets[sheet] = bits == 8 ? new byte[n] : bits == 16 ? new short[n] : new int[n];
            return 1;
        });
    }

    long put(int sheet, int i, int v) {
        return act(() -> {
            askSheet(sheet);
            ask(in(i, 0, length(sheet) - 1), 1);
            Object s = sheets[sheet];
            if (s instanceof byte[]) {
                ((byte[]) s)[i] = (byte) v;
            } else if (s instanceof short[]) {
                ((short[]) s)[i] = (short) v;
            } else {
                ((int[]) s)[i] = v;
            }
            return 1;
        });
    }

    long move(int sheet, int i, int other, int j, int n) {
        return act(() -> {
            ask(in(sheet, 0, 3) && in(other, 0, 3), 1);
            ask(sheets[sheet] != null && sheets[other] != null, 2);
            ask(sheets[sheet].getClass() == sheets[other].getClass(), 5);
            ask(n >= 0 && i >= 0 && j >= 0, 1);
            ask((long) i + n <= length(sheet) && (long) j + n <= length(other), 1);
            System.arraycopy(sheets[sheet], i, sheets[other], j, n);
            return n;
        });
    }

    long image() {
        image = now.copy();
        return ++images;
    }

    long restore() {
        return act(() -> {
            ask(image != null, 2);
            now = image.copy();
            return now.tonight;
        });
    }

    long tell(int v) {
        return act(() -> {
            ask(now.waits.size() < 20, 4);
            now.waits.add(v);
            return now.waits.size();
        });
    }

    long check() {
        List<Integer> waits = now.waits;
        now.waits = new ArrayList<>();
        for (int i = 0; i < waits.size(); i++) {
            if (now.ahead(i + 1).by != waits.get(i)) {
                return 1 + i;
            }
        }
        return 0;
    }

    long count(int what) {
        return act(() -> {
            ask(in(what, 0, 7), 1);
            int[] counts = {now.tonight, now.ways.size(), now.things.size(), now.killed, now.tape.length(),
                now.waits.size(), trace.size(), now.z};
            return counts[what];
        });
    }

    long told(int k) {
        return act(() -> {
            ask(in(k, 1, 5), 1);
            return told[k];
        });
    }
}
