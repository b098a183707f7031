import java.util.NoSuchElementException;
import java.util.Random;

/**
 * Random runs of calls on LastChange and on the Oracle: every answer, every exception and, now and then,
 * all that can be asked of the state must be alike. Runs are told by a fixed seed (or the first argument).
 */
public final class FuzzTest {
    private interface Call { long go(); }

    private static int wrong = 0;
    private final Random random;
    private final StringBuilder log = new StringBuilder();
    private LastChange x;
    private Oracle o;
    private int calls;

    private FuzzTest(long seed) { random = new Random(seed); }

    private static String answer(Call call) {
        try {
            return Long.toString(call.go());
        } catch (RuntimeException e) {
            return "throws." + e.getClass().getSimpleName();
        }
    }

    private void due(String name, Call got, Call want) {
        calls++;
        String w = answer(want), g = answer(got);
        log.append(name).append(" -> ").append(w).append('\n');
        if (!g.equals(w)) {
            wrong++;
            if (wrong < 5) System.out.println("answered " + g + ", due is the last row of:\n" + log);
        }
    }

    private int below(int n) { return random.nextInt(n); }

    private int odd(int low, int high) {
        int kind = below(40);
        if (kind == 0) return Integer.MIN_VALUE;
        if (kind == 1) return Integer.MAX_VALUE;
        if (kind == 2) return low - 1;
        if (kind == 3) return high + 1;
        if (kind == 4) return random.nextInt();
        return low + below(high - low + 1);
    }

    private String five(int style) {
        int top = style == 0 ? 3 : 100;
        int full = 1 + below(15), most = style == 2 ? 2 : 7;
        String sep = below(8) == 0 ? "\n " : " ";
        return " " + below(top) + sep + below(top) + sep + full + sep + (1 + below(most)) + sep + (1 + below(most));
    }

    private String text() {
        StringBuilder b = new StringBuilder("clock " + (below(4) == 0 ? below(4) : below(100)) + ";");
        if (below(3) == 0) b.append("extra ").append(below(301)).append(';');
        int style = below(3), teams = below(25) == 0 ? 1 + below(3) : 2;
        for (int t = 0; t < teams; t++) {
            b.append(below(6) == 0 ? "\n" : "").append("team ");
            if (below(3) == 0) b.append("last ");
            b.append(below(100)).append(';');
            int lines = below(30) == 0 ? 0 : 1 + below(below(12) == 0 ? 5 : 4), pairs = below(below(12) == 0 ? 4 : 3);
            for (int i = 0; i < lines; i++) b.append("line").append(five(style)).append(';');
            for (int i = 0; i < pairs; i++) b.append("pair").append(five(style)).append(';');
            if (below(20) == 0) b.append("extra ").append(below(310)).append(';');
        }
        return b.toString();
    }

    private static final String[] BITS = {"clock", "team", "last", "line", "pair", "extra", ";", " ", "\n", "0", "100",
        "1", "99999999999999999999", "007", "x", "A", "lin", "lines", "\u00e9", "\t", "-1", ".", "", "300", "301", "16", "8"};

    private String broken(String text) {
        StringBuilder b = new StringBuilder(text);
        for (int i = 1 + below(2); i > 0; i--) {
            int at = below(b.length() + 1);
            String bit = BITS[below(BITS.length)];
            switch (below(4)) {
                case 0: b.insert(at, bit); break;
                case 1: b.replace(at, Math.min(b.length(), at + 1 + below(6)), bit); break;
                case 2: b.delete(at, Math.min(b.length(), at + 1 + below(12))); break;
                default: b.setLength(at); break;
            }
        }
        return b.toString();
    }

    private void tell() {
        String t = text();
        if (below(3) == 0) t = broken(t);
        int n = Math.min(t.length(), 500);
        byte[] bytes = new byte[(n + 19) / 20 * 20];
        for (int i = 0; i < bytes.length; i++) bytes[i] = (byte) (i < n ? t.charAt(i) : ' ');
        for (int i = 0; i < bytes.length; i += 20) {
            int[] v = new int[5];
            for (int j = 0; j < 20; j++) v[j / 4] = v[j / 4] << 8 | bytes[i + j] & 255;
            feed(v);
        }
        int size = below(15) == 0 ? odd(0, 500) : below(10) == 0 ? bytes.length : n;
        due("count(4)", () -> x.count(4), () -> o.count(4));
        due("game(" + size + ") of " + t.replace("\n", "\\n"), () -> x.game(size), () -> o.game(size));
        due("fault()", () -> x.fault(), () -> o.fault());
    }

    private void feed(int[] v) {
        due("feed", () -> x.feed(v[0], v[1], v[2], v[3], v[4]), () -> o.feed(v[0], v[1], v[2], v[3], v[4]));
    }

    private void act() {
        switch (below(12)) {
            case 0: case 1: case 2: case 3: {
                int a = odd(0, 5), b = odd(0, 5);
                int mx = o.now.squads[0].may().get(0), my = o.now.squads[1].may().get(0);
                int p = below(3) == 0 ? mx : a, q = below(3) == 0 ? my : b;
                due("turn(" + p + ", " + q + ")", () -> x.turn(p, q), () -> o.turn(p, q));
                break;
            }
            case 4: case 5: {
                int seed = random.nextInt(), n = odd(0, below(3) == 0 ? 99 : 6), w = odd(0, 3), v = odd(0, 3);
                due("play(" + seed + ", " + n + ", " + w + ", " + v + ")", () -> x.play(seed, n, w, v), () -> o.play(seed, n, w, v));
                break;
            }
            case 6: case 7: case 8: {
                int t = odd(0, 1), w = odd(0, 3);
                int v = w == 0 ? odd(0, 99) : w == 1 ? odd(0, below(2) == 0 ? 15 : 3) : w == 2 ? odd(-1, 5) : odd(0, 1);
                due("set(" + t + ", " + w + ", " + v + ")", () -> x.set(t, w, v), () -> o.set(t, w, v));
                break;
            }
            case 9: { int t = odd(0, 1); due("see(" + t + ")", () -> x.see(t), () -> o.see(t)); break; }
            case 10:
                for (int i = below(below(5) == 0 ? 20 : 3); i >= 0; i--) due("undo()", () -> x.undo(), () -> o.undo());
                break;
            default:
                if (below(2) == 0) due("image()", () -> { x.image(); return 0; }, () -> { o.image(); return 0; });
                else due("back()", () -> x.back() ? 1 : 0, () -> o.back() ? 1 : 0);
        }
    }

    private void ask() {
        int k = odd(0, below(30) == 0 ? 4 : below(6) == 0 ? 3 : 2), a = odd(0, 5), b = odd(0, 5), t = odd(0, 1), w = odd(0, 8);
        switch (below(22)) {
            case 0: { int c = odd(0, 5); due("count(" + c + ")", () -> x.count(c), () -> o.count(c)); break; }
            case 1: due("team(" + t + ", " + w + ")", () -> x.team(t, w), () -> o.team(t, w)); break;
            case 2: due("unit(" + t + ", " + a + ", " + w + ")", () -> x.unit(t, a, w), () -> o.unit(t, a, w)); break;
            case 3: due("chance(" + t + ", " + a + ", " + b + ")", () -> x.chance(t, a, b), () -> o.chance(t, a, b)); break;
            case 4: { int c = odd(0, 15), d = odd(0, 2); due("meeting(" + c + ", " + d + ")", () -> x.meeting(c, d), () -> o.meeting(c, d)); break; }
            case 5: due("rested(" + t + ", " + a + ")", () -> x.rested(t, a), () -> o.rested(t, a)); break;
            case 6: due("value(" + k + ")", () -> x.value(k), () -> o.value(k)); break;
            case 7: due("first(" + k + ")", () -> x.first(k), () -> o.first(k)); break;
            case 8: due("reply(" + a + ", " + k + ")", () -> x.reply(a, k), () -> o.reply(a, k)); break;
            case 9: due("by(" + a + ", " + b + ", " + k + ")", () -> x.by(a, b, k), () -> o.by(a, b, k)); break;
            case 10: { int i = odd(0, 3), c = odd(0, 2); due("best(" + k + ", " + i + ", " + c + ")", () -> x.best(k, i, c), () -> o.best(k, i, c)); break; }
            case 11: { int n = odd(0, 15); due("cost(" + t + ", " + n + ", " + k + ")", () -> x.cost(t, n, k), () -> o.cost(t, n, k)); break; }
            case 12: due("seeing(" + k + ")", () -> x.seeing(k), () -> o.seeing(k)); break;
            case 13: due("blind(" + k + ", " + t + ")", () -> x.blind(k, t), () -> o.blind(k, t)); break;
            case 14: askRotation(); break;
            case 15: { int l = odd(-1, 3); due("given(" + l + ")", () -> x.given(l), () -> o.given(l)); break; }
            case 16: { int n = odd(0, 60), d = odd(-5, 5); due("odds(" + a + ", " + b + ", " + n + ", " + d + ")", () -> x.odds(a, b, n, d), () -> o.odds(a, b, n, d)); break; }
            case 17: { int d = odd(-5, 5); due("when(" + a + ", " + b + ", " + d + ")", () -> x.when(a, b, d), () -> o.when(a, b, d)); break; }
            case 18: {
                int seed = random.nextInt(), m = odd(1, below(3) == 0 ? 20 : 3), n = odd(0, below(4) == 0 ? 99 : 5), v = odd(0, 3), u = odd(0, 3), c = odd(0, 3);
                due("games(" + seed + ", " + m + ", " + n + ", " + v + ", " + u + ", " + c + ")", () -> x.games(seed, m, n, v, u, c), () -> o.games(seed, m, n, v, u, c));
                break;
            }
            case 19: { boolean r = below(2) == 0; due("lasts(" + t + ", " + a + ", " + r + ")", () -> x.lasts(t, a, r), () -> o.lasts(t, a, r)); break; }
            case 20: due("say()", () -> x.say(), () -> o.say()); break;
            default: { int i = odd(0, 60); due("said(" + i + ")", () -> x.said(i), () -> o.said(i)); break; }
        }
    }

    private void askRotation() {
        int n = odd(1, below(40) == 0 ? 8 : 5), figures = 0;
        Oracle.State s = o.now;
        for (int j = 0; j < Math.min(n, 8); j++) {
            java.util.List<Integer> may = s.squads[1].may();
            int y = may.get(below(may.size()));
            figures = figures * 10 + (below(25) == 0 ? below(10) : y);
            s = s.behind(s.squads[0].may().get(0), y);
        }
        int f = below(15) == 0 ? odd(0, 99999) : figures, i = odd(-1, Math.max(1, Math.min(n, 9)) - 1);
        due("rotation(" + f + ", " + n + ", " + i + ")", () -> x.rotation(f, n, i), () -> o.rotation(f, n, i));
    }

    private void askAll() {
        due("say()", () -> x.say(), () -> o.say());
        for (int i = 0; i < 56; i++) { int at = i; due("said(" + at + ")", () -> x.said(at), () -> o.said(at)); }
        for (int i = 0; i < 6; i++) { int w = i; due("count(" + w + ")", () -> x.count(w), () -> o.count(w)); }
        for (int t = 0; t < 2; t++) for (int i = 0; i < 9; i++) {
            int u = t, w = i;
            due("team(" + u + ", " + w + ")", () -> x.team(u, w), () -> o.team(u, w));
        }
    }

    private void run() {
        x = new LastChange();
        o = new Oracle();
        if (below(10) != 0) tell();
        while (calls < 420) {
            int kind = below(60);
            if (kind == 0) tell();
            else if (kind == 1) { int[] v = {random.nextInt(), 538976288, random.nextInt(), 0, -1}; feed(v); }
            else if (kind == 2 && calls < 300) askAll();
            else if (kind < 20) act();
            else ask();
        }
    }

    public static void main(String[] args) {
        long from = args.length > 0 ? Long.parseLong(args[0]) : 1;
        int runs = args.length > 1 ? Integer.parseInt(args[1]) : 2000;
        for (int i = 0; i < runs; i++) new FuzzTest(from + i).run();
        System.out.println("FuzzTest: " + runs + " runs, " + wrong + " wrong answers");
        if (wrong > 0) System.exit(1);
    }
}
