import java.util.ArrayList;
import java.util.Arrays;
import java.util.Collections;
import java.util.Comparator;
import java.util.HashMap;
import java.util.List;
import java.util.Map;
import java.util.NoSuchElementException;
import java.util.regex.Matcher;
import java.util.regex.Pattern;

/**
 * The document once more, written for plainness alone: copies of whole states, no pruning, no rows used
 * again. FuzzTest holds LastChange against it. It shares no code with LastChange on purpose.
 */
final class Oracle {
    static final int NONE = -1;
    static final int HIDDEN = -1000000;

    static final class Unit {
        boolean line;
        int attack, guard, full, tires, rests, legs;
        Unit copy() {
            Unit u = new Unit();
            u.line = line; u.attack = attack; u.guard = guard; u.full = full;
            u.tires = tires; u.rests = rests; u.legs = legs;
            return u;
        }
        int attackPower() { return attack * legs / full; }
        int guardPower() { return guard * legs / full; }
    }

    static final class Squad {
        List<Unit> units = new ArrayList<>();
        int save, goals, shortFor, stays = NONE;
        boolean pulled;
        Squad copy() {
            Squad s = new Squad();
            for (Unit u : units) s.units.add(u.copy());
            s.save = save; s.goals = goals; s.shortFor = shortFor; s.stays = stays; s.pulled = pulled;
            return s;
        }
        int lines() { int n = 0; for (Unit u : units) if (u.line) n++; return n; }
        int pairs() { return units.size() - lines(); }
        List<Integer> may() {
            List<Integer> list = new ArrayList<>();
            if (stays != NONE) { list.add(stays); return list; }
            boolean wantPairs = shortFor > 0 && pairs() > 0;
            for (int i = 0; i < units.size(); i++) if (units.get(i).line != wantPairs) list.add(i);
            return list;
        }
    }

    static final class State {
        Squad[] squads = {new Squad(), new Squad()};
        int clock, last, extra = 150;
        State copy() {
            State s = new State();
            s.squads[0] = squads[0].copy(); s.squads[1] = squads[1].copy();
            s.clock = clock; s.last = last; s.extra = extra;
            return s;
        }
        int chance(int team, int own, int other) {
            Squad a = squads[team], b = squads[1 - team];
            int c = 100 + 2 * (a.units.get(own).attackPower() - b.units.get(other).guardPower());
            if (!b.pulled) c -= b.save;
            if (a.pulled) c += extra;
            if (c < 0) c = 0;
            boolean as = a.shortFor > 0, bs = b.shortFor > 0;
            if (as && !bs) c /= 2;
            if (bs && !as) c *= 2;
            return c > 450 ? 450 : c;
        }
        int edge(int x, int y) { return chance(0, x, y) - chance(1, y, x); }
        State behind(int x, int y) {
            State s = copy();
            for (int t = 0; t < 2; t++) {
                int sent = t == 0 ? x : y;
                Squad q = s.squads[t];
                for (int i = 0; i < q.units.size(); i++) {
                    Unit u = q.units.get(i);
                    if (i == sent) { u.legs -= u.tires; if (u.legs < 0) u.legs = 0; }
                    else { u.legs += u.rests; if (u.legs > u.full) u.legs = u.full; }
                }
                if (q.shortFor > 0) q.shortFor--;
                q.stays = NONE;
            }
            if (s.clock > 0) s.clock--;
            return s;
        }
        int value(int k) {
            if (k == 0) return 0;
            int first = 1 - last;
            int best = 0; boolean any = false;
            for (int f : squads[first].may()) {
                int v = replied(f, k);
                if (!any || (first == 0 ? v > best : v < best)) { best = v; any = true; }
            }
            return best;
        }
        int replied(int f, int k) {
            int best = 0; boolean any = false;
            for (int r : squads[last].may()) {
                int v = last == 1 ? by(f, r, k) : by(r, f, k);
                if (!any || (last == 0 ? v > best : v < best)) { best = v; any = true; }
            }
            return best;
        }
        int by(int x, int y, int k) {
            return edge(x, y) + (k > 1 ? behind(x, y).value(k - 1) : 0);
        }
        int first(int k) {
            int v = value(k);
            for (int f : squads[1 - last].may()) if (replied(f, k) == v) return f;
            throw new AssertionError();
        }
        int reply(int f, int k) {
            int v = replied(f, k);
            for (int r : squads[last].may()) if ((last == 1 ? by(f, r, k) : by(r, f, k)) == v) return r;
            throw new AssertionError();
        }
        boolean may(int x, int y) { return squads[0].may().contains(x) && squads[1].may().contains(y); }
    }

    State now = new State();
    State kept;
    List<State> acts = new ArrayList<>();
    List<Integer> tape = new ArrayList<>();
    int place = NONE;
    String words = "";

    Oracle() {
        for (Squad q : now.squads) {
            Unit u = new Unit();
            u.line = true; u.full = 1; u.tires = 1; u.rests = 1; u.legs = 1;
            q.units.add(u);
        }
    }

    private void act() {
        acts.add(now.copy());
        if (acts.size() > 16) acts.remove(0);
    }

    private static void none(boolean so) { if (so) throw new NoSuchElementException(); }
    private static void bad(boolean so) { if (so) throw new IllegalArgumentException(); }
    private Squad squad(int team) { none(team != 0 && team != 1); return now.squads[team]; }

    int feed(int a, int b, int c, int d, int e) {
        if (tape.size() + 20 > 500) return NONE;
        for (int v : new int[] {a, b, c, d, e}) for (int s = 24; s >= 0; s -= 8) tape.add((v >>> s) & 255);
        return tape.size();
    }

    // ---- the text: cut into tokens first, then read by descent -------------------------------
    private static final Pattern TOKEN = Pattern.compile("[a-z]+|[0-9]+|;|[ \n]|(?s:.)");
    static final class Fault extends RuntimeException {
        final int code, at;
        Fault(int code, int at) { this.code = code; this.at = at; }
    }
    private List<String> tokens;
    private List<Integer> places;
    private int pos;
    private String peek() { return tokens.get(pos); }
    private int where() { return places.get(pos); }
    private void take(String word) {
        if (!peek().equals(word)) throw new Fault(1, where());
        pos++;
    }
    private int number(int least, int most) {
        String t = peek();
        if (!t.matches("[0-9]+")) throw new Fault(1, where());
        java.math.BigInteger v = new java.math.BigInteger(t);
        if (v.compareTo(java.math.BigInteger.valueOf(least)) < 0 || v.compareTo(java.math.BigInteger.valueOf(most)) > 0)
            throw new Fault(2, where());
        pos++;
        return v.intValue();
    }
    private State parse(String text) {
        tokens = new ArrayList<>(); places = new ArrayList<>(); pos = 0;
        Matcher m = TOKEN.matcher(text);
        while (m.find()) {
            if (m.group().equals(" ") || m.group().equals("\n")) continue;
            tokens.add(m.group()); places.add(m.start());
        }
        tokens.add("<end>"); places.add(text.length());
        State s = new State();
        take("clock");
        s.clock = number(0, 99);
        take(";");
        int teams = 0;
        while (!peek().equals("<end>")) {
            String word = peek();
            int at = where();
            Squad q = teams == 0 ? null : s.squads[Math.min(teams, 2) - 1];
            if (word.equals("team")) {
                if (teams == 2) throw new Fault(3, at);
                if (teams == 1 && q.lines() == 0) throw new Fault(4, at);
                pos++; teams++;
                if (peek().equals("last")) { pos++; s.last = teams - 1; }
                s.squads[teams - 1].save = number(0, 99);
            } else if (word.equals("extra")) {
                pos++;
                s.extra = number(0, 300);
            } else if (q != null && (word.equals("line") || word.equals("pair"))) {
                boolean line = word.equals("line");
                if (line && (q.lines() == 4 || q.pairs() > 0) || !line && q.pairs() == 2) throw new Fault(3, at);
                pos++;
                Unit u = new Unit();
                u.line = line;
                u.attack = number(0, 99); u.guard = number(0, 99); u.full = number(1, 15);
                u.tires = number(1, 7); u.rests = number(1, 7); u.legs = u.full;
                q.units.add(u);
            } else throw new Fault(1, at);
            take(";");
        }
        if (teams < 2 || s.squads[0].lines() == 0 || s.squads[1].lines() == 0) throw new Fault(4, text.length());
        return s;
    }

    int game(int n) {
        bad(n < 0 || n > tape.size());
        StringBuilder b = new StringBuilder();
        for (int i = 0; i < n; i++) b.append((char) (int) tape.get(i));
        tape.clear();
        try {
            now = parse(b.toString());
        } catch (Fault f) {
            place = f.at;
            return f.code;
        }
        acts.clear();
        place = NONE;
        return 0;
    }

    int fault() { return place; }

    private List<int[]> meetings() {
        List<int[]> list = new ArrayList<>();
        for (int x : now.squads[0].may()) for (int y : now.squads[1].may()) list.add(new int[] {x, y, now.edge(x, y)});
        Collections.sort(list, Comparator.comparingInt((int[] m) -> -m[2]).thenComparingInt(m -> m[0]).thenComparingInt(m -> m[1]));
        return list;
    }

    int count(int what) {
        none(what < 0 || what > 5);
        return new int[] {now.clock, now.last, now.extra, acts.size(), tape.size(), meetings().size()}[what];
    }

    int team(int team, int what) {
        Squad q = squad(team);
        none(what < 0 || what > 8);
        int bits = 0, legs = 0;
        for (int u : q.may()) bits |= 1 << u;
        for (Unit u : q.units) legs += u.legs;
        return new int[] {q.lines(), q.pairs(), q.save, q.goals, q.shortFor, q.pulled ? 1 : 0, q.stays, bits, legs}[what];
    }

    private Unit unitOf(int team, int unit) {
        Squad q = squad(team);
        none(unit < 0 || unit >= q.units.size());
        return q.units.get(unit);
    }

    int unit(int team, int unit, int what) {
        Unit u = unitOf(team, unit);
        none(what < 0 || what > 7);
        return new int[] {u.attack, u.guard, u.full, u.tires, u.rests, u.legs, u.attackPower(), u.guardPower()}[what];
    }

    int chance(int team, int own, int other) {
        unitOf(team, own); unitOf(1 - team, other);
        return now.chance(team, own, other);
    }

    int meeting(int k, int what) {
        List<int[]> list = meetings();
        none(k < 0 || k >= list.size() || what < 0 || what > 2);
        return list.get(k)[what];
    }

    int rested(int team, int k) {
        Squad q = squad(team);
        none(k < 0 || k >= q.units.size());
        List<Integer> order = new ArrayList<>();
        for (int i = 0; i < q.units.size(); i++) order.add(i);
        order.sort((a, b) -> {
            Unit u = q.units.get(a), v = q.units.get(b);
            if (u.legs != v.legs) return v.legs - u.legs;
            if (u.attackPower() != v.attackPower()) return v.attackPower() - u.attackPower();
            return a - b;
        });
        return order.get(k);
    }

    int value(int k) { bad(k < 0 || k > 4); return now.value(k); }
    int first(int k) { bad(k < 1 || k > 4); return now.first(k); }

    int reply(int unit, int k) {
        none(!now.squads[1 - now.last].may().contains(unit));
        bad(k < 1 || k > 4);
        return now.reply(unit, k);
    }

    int by(int x, int y, int k) {
        none(!now.may(x, y));
        bad(k < 1 || k > 4);
        return now.by(x, y, k);
    }

    int best(int k, int i, int what) {
        bad(k < 1 || k > 4);
        none(i < 0 || i >= k || what < 0 || what > 2);
        State s = now;
        for (int j = 0; ; j++) {
            int f = s.first(k - j), r = s.reply(f, k - j);
            int x = s.last == 1 ? f : r, y = s.last == 1 ? r : f;
            if (j == i) return what == 0 ? x : what == 1 ? y : s.edge(x, y);
            s = s.behind(x, y);
        }
    }

    int cost(int team, int n, int k) {
        squad(team);
        bad(n < 0 || n > 15 || k < 1 || k > 4);
        State s = now.copy();
        s.squads[team].shortFor = n;
        return s.value(k) - now.value(k);
    }

    int seeing(int k) {
        bad(k < 1 || k > 4);
        State a = now.copy(), b = now.copy();
        a.last = 0; b.last = 1;
        return a.value(k) - b.value(k);
    }

    int blind(int k, int what) {
        none(what != 0 && what != 1);
        bad(k < 1 || k > 4);
        List<Integer> outer = new ArrayList<>();
        for (int a : now.squads[what].may()) {
            List<Integer> inner = new ArrayList<>();
            for (int b : now.squads[1 - what].may()) inner.add(what == 0 ? now.by(a, b, k) : now.by(b, a, k));
            outer.add(what == 0 ? Collections.min(inner) : Collections.max(inner));
        }
        return what == 0 ? Collections.max(outer) : Collections.min(outer);
    }

    private int[] bestRow(State s, int[] told, int j) {
        if (j == told.length) return new int[told.length + 1];
        int[] best = null;
        for (int x : s.squads[0].may()) {
            int[] rest = bestRow(s.behind(x, told[j]), told, j + 1);
            int sum = rest[told.length] + s.edge(x, told[j]);
            if (best == null || sum > best[told.length]) { best = rest; best[j] = x; best[told.length] = sum; }
        }
        return best;
    }

    int rotation(int figures, int n, int i) {
        bad(n < 1 || n > 8 || figures < 0);
        String row = Integer.toString(figures);
        if (row.length() > n) return HIDDEN;
        while (row.length() < n) row = "0" + row;
        int[] told = new int[n];
        State s = now;
        for (int j = 0; j < n; j++) {
            told[j] = row.charAt(j) - '0';
            if (!s.squads[1].may().contains(told[j])) return HIDDEN;
            s = s.behind(s.squads[0].may().get(0), told[j]);
        }
        none(i < -1 || i >= n);
        int[] best = bestRow(now, told, 0);
        return i == -1 ? best[n] : best[i];
    }

    int given(int line) {
        int own = now.squads[0].lines(), others = now.squads[1].lines();
        none(line < -1 || line >= own);
        int[] best = null;
        int most = 0;
        // rows over 0 .. others, the last one meaning none, counted up like a number
        int all = 1;
        for (int i = 0; i < own; i++) all *= others + 1;
        for (int code = 0; code < all; code++) {
            int[] row = new int[own];
            int rest = code;
            for (int i = own - 1; i >= 0; i--) { row[i] = rest % (others + 1); rest /= others + 1; }
            int used = 0, pairs = 0, sum = 0;
            boolean once = true;
            for (int i = 0; i < own; i++) {
                if (row[i] == others) continue;
                if ((used >> row[i] & 1) == 1) once = false;
                used |= 1 << row[i];
                pairs++;
                sum += now.edge(i, row[i]);
            }
            if (!once || pairs != Math.min(own, others)) continue;
            if (best == null || sum > most) { best = row; most = sum; }
        }
        if (line == -1) return most;
        return best[line] == others ? NONE : best[line];
    }

    private final Map<Integer, Integer> memo = new HashMap<>();
    private int[] chances(int x, int y) {
        State s = now.copy();
        s.squads[0].pulled = false;
        int h = s.chance(0, x, y), a = s.chance(1, y, x);
        s.squads[0].pulled = true;
        return new int[] {h, a, s.chance(0, x, y), s.chance(1, y, x)};
    }
    private int one(int h, int a, int[] c, int t, int d) {
        long sum = (long) h * odds(c, t - 1, d + 1) + (long) a * odds(c, t - 1, d - 1) + (1000L - h - a) * odds(c, t - 1, d);
        return (int) (sum / 1000);
    }
    private int odds(int[] c, int t, int d) {
        int lead = Math.max(-5, Math.min(5, d));
        if (t == 0) return lead > 0 ? 1000000 : lead == 0 ? 500000 : 0;
        int key = t * 100 + lead + 5;
        Integer known = memo.get(key);
        if (known != null) return known;
        int v = Math.max(one(c[0], c[1], c, t, lead), one(c[2], c[3], c, t, lead));
        memo.put(key, v);
        return v;
    }

    int odds(int x, int y, int t, int d) {
        unitOf(0, x); unitOf(1, y);
        bad(t < 0 || t > 60 || d < -5 || d > 5);
        memo.clear();
        return odds(chances(x, y), t, d);
    }

    int when(int x, int y, int d) {
        unitOf(0, x); unitOf(1, y);
        bad(d < -5 || d > 5);
        memo.clear();
        int[] c = chances(x, y);
        for (int t = 60; t >= 1; t--) if (one(c[2], c[3], c, t, d) > one(c[0], c[1], c, t, d)) return t;
        return NONE;
    }

    int turn(int x, int y) {
        if (now.clock == 0 || !now.may(x, y)) return HIDDEN;
        int edge = now.edge(x, y);
        act();
        now = now.behind(x, y);
        return edge;
    }

    private static int send(State s, int team, int way, int latest, int seen) {
        List<Integer> may = s.squads[team].may();
        if (way == 0) {
            int best = may.get(0);
            for (int u : may) if (s.squads[team].units.get(u).legs > s.squads[team].units.get(best).legs) best = u;
            return best;
        }
        if (way == 1) {
            for (int u : may) if (u > latest) return u;
            return may.get(0);
        }
        if (way == 3) {
            int k = s.clock == 1 ? 1 : 2;
            return seen == NONE ? s.first(k) : s.reply(seen, k);
        }
        int best = NONE, bestEdge = 0;
        for (int u : may) {
            int worst = Integer.MAX_VALUE;
            for (int v : s.squads[1 - team].may()) {
                if (seen != NONE && v != seen) continue;
                int e = team == 0 ? s.edge(u, v) : -s.edge(v, u);
                worst = Math.min(worst, e);
            }
            if (best == NONE || worst > bestEdge) { best = u; bestEdge = worst; }
        }
        return best;
    }

    private static State through(State from, int seed, int n, int[] ways) {
        State s = from.copy();
        int[] latest = {NONE, NONE};
        int x = seed;
        for (int i = 0; i < n && s.clock > 0; i++) {
            int f = 1 - s.last, l = s.last;
            int a = send(s, f, ways[f], latest[f], NONE);
            int b = send(s, l, ways[l], latest[l], a);
            latest[f] = a; latest[l] = b;
            x = x * 1103515245 + 12345;
            int draw = (x >>> 16 & 0x7fff) % 1000;
            int h = s.chance(0, latest[0], latest[1]), g = s.chance(1, latest[1], latest[0]);
            int scorer = draw < h ? 0 : draw < h + g ? 1 : NONE;
            if (scorer != NONE) {
                if (s.squads[scorer].goals < 99) s.squads[scorer].goals++;
                s.squads[1 - scorer].shortFor = 0;
            }
            s = s.behind(latest[0], latest[1]);
        }
        return s;
    }

    int play(int seed, int n, int way, int other) {
        bad(n < 0 || n > 99 || way < 0 || way > 3 || other < 0 || other > 3);
        act();
        int clock = now.clock;
        now = through(now, seed, n, new int[] {way, other});
        return clock - now.clock;
    }

    int games(int seed, int m, int n, int way, int other, int what) {
        none(what < 0 || what > 3);
        bad(m < 1 || m > 20 || n < 0 || n > 99 || way < 0 || way > 3 || other < 0 || other > 3);
        int sum = 0;
        for (int i = 0; i < m; i++) {
            State s = through(now, seed + i, n, new int[] {way, other});
            int a = s.squads[0].goals, b = s.squads[1].goals;
            sum += what == 0 ? (a > b ? 1 : 0) : what == 1 ? (a == b ? 1 : 0) : what == 2 ? a : b;
        }
        return sum;
    }

    int set(int team, int what, int v) {
        Squad q = squad(team);
        none(what < 0 || what > 3);
        bad(what == 0 && (v < 0 || v > 99) || what == 1 && (v < 0 || v > 15)
                || what == 2 && (v < -1 || v >= q.units.size()) || what == 3 && v != 0 && v != 1);
        act();
        int was = new int[] {q.goals, q.shortFor, q.stays, q.pulled ? 1 : 0}[what];
        if (what == 0) q.goals = v;
        if (what == 1) q.shortFor = v;
        if (what == 2) q.stays = v;
        if (what == 3) q.pulled = v == 1;
        return was;
    }

    int see(int team) {
        squad(team);
        act();
        int was = now.last;
        now.last = team;
        return was;
    }

    int lasts(int team, int unit, boolean rest) {
        Unit u = unitOf(team, unit);
        int legs = u.legs, n = 0;
        while (rest ? legs < u.full : legs > 0) { legs += rest ? u.rests : -u.tires; n++; }
        return n;
    }

    int say() {
        StringBuilder b = new StringBuilder();
        for (int t = 0; t < 2; t++) {
            Squad q = now.squads[t];
            if (t == 1) b.append('/');
            b.append(q.goals);
            for (int i = 0; i < q.units.size(); i++) {
                b.append(q.units.get(i).line ? "l" : "p").append(q.units.get(i).legs);
                if (q.stays == i) b.append('.');
            }
            if (q.shortFor > 0) b.append('+').append(q.shortFor);
            if (q.pulled) b.append('^');
            if (now.last == t) b.append('*');
        }
        words = b.append('@').append(now.clock).toString();
        return words.length();
    }

    int said(int i) { return i < 0 || i >= words.length() ? NONE : words.charAt(i); }

    int undo() {
        if (acts.isEmpty()) return NONE;
        now = acts.remove(acts.size() - 1);
        return acts.size();
    }

    void image() { kept = now.copy(); }

    boolean back() {
        if (kept == null) return false;
        now = kept.copy();
        acts.clear();
        return true;
    }

    @Override public String toString() { return Arrays.toString(acts.toArray()); }
}
