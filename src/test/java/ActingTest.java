import java.io.IOException;

/** Promises 23 to 33, sentence by sentence: TURNS, GAMES, what is set, SAID, UNDONE, kept: ends, wrong inputs, what stays. */
public final class ActingTest extends Sentences {
    /** ACTS, the tape and fault() in what all() tells. */
    private static final String NOT_KEPT = "^(\\d+ \\d+ \\d+) \\d+ \\d+ (\\d+) fault -?\\d+";

    private static void turns() {
        under("Promise 23: turn");
        about("A TURN: its EDGE (ahead of it).");
        LastChange x = told(USUAL);
        due("turn(0, 1)", x.turn(0, 1), 40);
        due("all then", said(x), "0l7l8p6*/0l10l4p4@9");
        due("ACTS", x.count(3), 1);
        LastChange tires = told(game("line 30 0 1 1 1;", L));
        due("the EDGE ahead of it", tires.turn(0, 0), 60);
        due("the next one", tires.turn(0, 0), 0);
        LastChange least = told("clock 1;extra 300;team 0;" + L + "team 0;line 99 99 1 1 1;");
        least.set(1, 3, 1);
        due("the least EDGE there is", least.turn(0, 0), -450);

        about("HIDDEN (nothing changes): a UNIT MAY not be sent, CLOCK is 0.");
        String hidden = "answered " + HIDDEN;
        for (int u : new int[] {LEAST, -1, 2, 3, MOST}) refused(Sentences::busy, "turn(" + u + ", 2)", hidden, z -> z.turn(u, 2));
        for (int u : new int[] {LEAST, -1, 0, 1, 3, MOST}) refused(Sentences::busy, "turn(0, " + u + ")", hidden, z -> z.turn(0, u));
        refused(() -> {
            LastChange y = busy();
            y.set(0, 2, 1);
            return y;
        }, "turn(0, 2), it STAYS with 1", hidden, z -> z.turn(0, 2));
        refused(() -> told("clock 0;team 0;" + L + "team 0;" + L), "turn(0, 0) by CLOCK 0", hidden, z -> z.turn(0, 0));
        LastChange last = told("clock 1;team 0;" + L + "team 0;" + L);
        due("turn(0, 0) by CLOCK 1", last.turn(0, 0), 0);
        due("turn(0, 0) then", last.turn(0, 0), HIDDEN);
        due("ACTS", last.count(3), 1);
    }

    private static void plays() {
        under("Promise 24: play");
        about("An ACT: a GAME goes on by WAYS of TEAM 0 and TEAM 1: how many TURNS there were.");
        String own = "line 0 99 9 1 1;line 0 99 9 1 1;pair 0 99 9 1 1;";
        LastChange x = told(game(own, own));
        for (int n : new int[] {0, 1, 5}) due("play by n " + n, x.play(1, n, 0, 0), n);
        due("ACTS", x.count(3), 3);
        due("more than CLOCK", x.play(1, 99, 0, 0), 3);
        due("CLOCK 0", x.play(1, 99, 0, 0), 0);
        due("ACTS", x.count(3), 5);
        for (int i = 4; i >= 0; i--) due("undo()", x.undo(), i);
        due("all undone", said(x), "0l9l9p9*/0l9l9p9@9");
        LastChange each = told(game("line 0 99 8 1 1;line 0 99 9 1 1;", "line 0 99 8 1 1;line 0 99 9 1 1;"));
        each.play(2, 1, 0, 1);
        due("TEAM 0 by WAY 0, TEAM 1 by WAY 1", said(each), "0l8l8*/0l7l9@8");
        each.undo();
        each.play(2, 1, 1, 0);
        due("TEAM 0 by WAY 1, TEAM 1 by WAY 0", said(each), "0l7l9*/0l8l8@8");
        for (int w = 0; w <= 3; w++) for (int v = 0; v <= 3; v++) due("WAYS " + w + ", " + v, told(game(own, own)).play(LEAST, 9, w, v), 9);

        about("IllegalArgumentException: n isn't 0 to 99, no such WAYS.");
        for (int n : new int[] {LEAST, -1, 100, MOST}) refuses("play(1, " + n + ", 0, 0)", ILLEGAL, z -> z.play(1, n, 0, 0));
        for (int w : new int[] {LEAST, -1, 4, MOST}) {
            refuses("play(1, 1, " + w + ", 0)", ILLEGAL, z -> z.play(1, 1, w, 0));
            refuses("play(1, 1, 0, " + w + ")", ILLEGAL, z -> z.play(1, 1, 0, w));
            refuses("play(1, 0, 3, " + w + ")", ILLEGAL, z -> z.play(1, 0, 3, w));
        }
        due("n 99", told(game(own, own)).play(1, 99, 3, 3), 9);
    }

    private static int goalsBy(int team, int seed, int m) {
        int sum = 0;
        for (int i = 0; i < m; i++) if (draw(seed + i) / 100 == team) sum++;
        return sum;
    }

    private static void manyGames() {
        under("Promise 25: games");
        about("Of m GAMES (1 to 20; the seed, one more, ..) from now on, n TURNS each:");
        LastChange x = told(game(L, L));
        // CHANCES of 100 each: in one TURN a DRAW below 100 is TEAM 0's, one below 200 TEAM 1's GOAL.
        for (int seed : new int[] {0, 1, 100, -10, MOST - 9, LEAST}) for (int m : new int[] {1, 2, 20}) {
            due("games(" + seed + ", " + m + ", 1, ..)", x.games(seed, m, 1, 0, 0, 2), goalsBy(0, seed, m));
            due("games(" + seed + ", " + m + ", 1, ..)", x.games(seed, m, 1, 0, 0, 3), goalsBy(1, seed, m));
        }
        due("no TURN", x.games(0, 20, 0, 0, 0, 1), 20);
        LastChange clock = told("clock 1;team 0;" + L + "team 0;" + L);
        due("as many as CLOCK", clock.games(0, 20, 99, 0, 0, 2), goalsBy(0, 0, 20));

        about("how often TEAM 0 leads then (what 0), there is no lead (1), its GOALS (2), those of TEAM 1 (3) in all of these together");
        // Of seeds 0 to 19 in one TURN.
        int home = goalsBy(0, 0, 20), away = goalsBy(1, 0, 20);
        holds("both make some GOALS", home > 0 && away > 0);
        due("TEAM 0 leads", x.games(0, 20, 1, 0, 0, 0), home);
        due("no lead", x.games(0, 20, 1, 0, 0, 1), 20 - home - away);
        x.set(0, 0, 5);
        x.set(1, 0, 5);
        due("TEAM 0 leads from 5:5 on", x.games(0, 20, 1, 0, 0, 0), home);
        due("GOALS from 5:5 on", x.games(0, 20, 1, 0, 0, 2), 100 + home);
        due("GOALS of TEAM 1 from 5:5 on", x.games(0, 20, 1, 0, 0, 3), 100 + away);
        x.set(0, 0, 6);
        due("TEAM 0 leads from 6:5 on", x.games(0, 20, 1, 0, 0, 0), 20 - away);
        due("no lead from 6:5 on", x.games(0, 20, 1, 0, 0, 1), away);
        x.set(0, 0, 99);
        due("99 at most", x.games(0, 20, 1, 0, 0, 2), 20 * 99);

        about("(nothing stays).");
        for (int w = 0; w < 4; w++) {
            int what = w;
            LastChange a = busy(), b = busy();
            a.games(1, 20, 99, what, 3 - what, what);
            due("all behind games()", all(a) + lately(a), all(b) + lately(b));
            while (b.undo() != NONE) a.undo();
            due("all undone", all(a), all(b));
            a.back();
            b.back();
            due("all gone back to", all(a), all(b));
        }

        about("NoSuchElementException: another what.");
        for (int w : new int[] {LEAST, -1, 4, MOST}) refuses("games(1, 1, 1, 0, 0, " + w + ")", NO_SUCH, z -> z.games(1, 1, 1, 0, 0, w));

        about("IllegalArgumentException (behind that): m, n, WAYS.");
        for (int m : new int[] {LEAST, -1, 0, 21, MOST}) {
            refuses("games(1, " + m + ", 1, 0, 0, 0)", ILLEGAL, z -> z.games(1, m, 1, 0, 0, 0));
            refuses("games(1, " + m + ", 1, 0, 0, 4)", NO_SUCH, z -> z.games(1, m, 1, 0, 0, 4));
        }
        for (int n : new int[] {LEAST, -1, 100, MOST}) {
            refuses("games(1, 1, " + n + ", 0, 0, 0)", ILLEGAL, z -> z.games(1, 1, n, 0, 0, 0));
            refuses("games(1, 1, " + n + ", 0, 0, -1)", NO_SUCH, z -> z.games(1, 1, n, 0, 0, -1));
        }
        for (int w : new int[] {LEAST, -1, 4, MOST}) {
            refuses("games(1, 1, 1, " + w + ", 0, 3)", ILLEGAL, z -> z.games(1, 1, 1, w, 0, 3));
            refuses("games(1, 1, 1, 0, " + w + ", 3)", ILLEGAL, z -> z.games(1, 1, 1, 0, w, 3));
            refuses("games(1, 1, 1, " + w + ", " + w + ", 4)", NO_SUCH, z -> z.games(1, 1, 1, w, w, 4));
        }
    }

    private static void setting() {
        under("Promise 26: set");
        about("Of a TEAM: GOALS (what 0; 0 to 99), SHORT (1; 0 to 15), the UNIT with which it STAYS (2; NONE: none), its KEEPER PULLED (3; 1, 0) become v: what it was.");
        int[] asWhat = {3, 4, 6, 5}, first = {0, 0, NONE, 0};
        int[][] values = {{99, 0, 98, 98, 1}, {15, 0, 14, 14, 1}, {5, NONE, 0, 0, 3}, {1, 0, 1, 1, 0}};
        for (int t = 0; t < 2; t++) {
            LastChange x = told(game(L.repeat(4) + P + P, L.repeat(4) + P + P));
            for (int w = 0; w < 4; w++) {
                int was = first[w];
                for (int v : values[w]) {
                    due("set(" + t + ", " + w + ", " + v + ")", x.set(t, w, v), was);
                    due("then", x.team(t, asWhat[w]), v);
                    due("the other one's", x.team(1 - t, asWhat[w]), first[w]);
                    was = v;
                }
            }
            due("ACTS", x.count(3), 16);
        }

        about("NoSuchElementException: no such TEAM, another what.");
        for (int t : NO_TEAM) for (int w = 0; w < 4; w++) {
            int what = w;
            refuses("set(" + t + ", " + w + ", 0)", NO_SUCH, z -> z.set(t, what, 0));
        }
        for (int w : new int[] {LEAST, -1, 4, MOST}) refuses("set(1, " + w + ", 0)", NO_SUCH, z -> z.set(1, w, 0));

        about("IllegalArgumentException (behind that): v.");
        int[][] bad = {{LEAST, -1, 100, MOST}, {LEAST, -1, 16, MOST}, {LEAST, -2, 3, 6, MOST}, {LEAST, -1, 2, MOST}};
        for (int t = 0; t < 2; t++) for (int w = 0; w < 4; w++) for (int v : bad[w]) {
            int team = t, what = w;
            refuses("set(" + t + ", " + w + ", " + v + ")", ILLEGAL, z -> z.set(team, what, v));
            refuses("set(2, " + w + ", " + v + ")", NO_SUCH, z -> z.set(2, what, v));
            refuses("set(" + t + ", 4, " + v + ")", NO_SUCH, z -> z.set(team, 4, v));
        }
        LastChange odd = told(game(L + L, L + P + P));
        due("TEAM 1 has a third UNIT", odd.set(1, 2, 2), NONE);
        throwsIt(odd, "TEAM 0 has none", ILLEGAL, z -> z.set(0, 2, 2));

        under("Promise 27: see");
        about("A TEAM is LAST: which was.");
        LastChange x = told(game(L, L));
        int[][] seen = {{0, 0}, {1, 0}, {1, 1}, {0, 1}};
        for (int i = 0; i < 4; i++) {
            due("see(" + seen[i][0] + ")", x.see(seen[i][0]), seen[i][1]);
            due("LAST", x.count(1), seen[i][0]);
            due("ACTS", x.count(3), i + 1);
        }

        about("NoSuchElementException: no such TEAM.");
        for (int t : NO_TEAM) refuses("see(" + t + ")", NO_SUCH, z -> z.see(t));
    }

    private static void lasting() {
        under("Promise 28: lasts");
        about("How many TURNS one behind the other a UNIT can be sent till it has no LEGS (rest false), be left out till it has all (true);");
        int[][] fives = {{15, 1, 1}, {15, 7, 7}, {14, 7, 7}, {13, 7, 6}, {1, 7, 7}, {1, 1, 1}, {8, 7, 3}, {9, 3, 4}};
        int[][] turns = {{15, 15}, {3, 3}, {2, 2}, {2, 3}, {1, 1}, {1, 1}, {2, 3}, {3, 3}};
        for (int i = 0; i < fives.length; i++) for (int t = 0; t < 2; t++) {
            String own = L + "line 0 0 " + fives[i][0] + " " + fives[i][1] + " " + fives[i][2] + ";";
            String wide = "line 0 0 15 1 7;line 0 0 15 1 7;";
            LastChange x = told("clock 99;team 0;" + (t == 0 ? own + "team 0;" + wide : wide + "team 0;" + own));
            due("lasts(" + t + ", 1, false) of " + own, x.lasts(t, 1, false), turns[i][0]);
            for (int n = 1; n <= turns[i][0]; n++) {
                x.turn(t == 0 ? 1 : 0, t == 0 ? 0 : 1);
                due("behind " + n + " TURNS", x.lasts(t, 1, false), turns[i][0] - n);
            }
            due("LEGS", x.unit(t, 1, 5), 0);
            due("lasts(" + t + ", 1, true) of " + own, x.lasts(t, 1, true), turns[i][1]);
            for (int n = 1; n <= turns[i][1]; n++) {
                x.turn(0, 0);
                due("behind " + n + " TURNS of rest", x.lasts(t, 1, true), turns[i][1] - n);
            }
            due("LEGS", x.unit(t, 1, 5), fives[i][0]);
        }

        about("0: it is so now.");
        LastChange x = told(game("line 0 0 3 3 1;pair 0 0 9 1 1;", L));
        due("all LEGS", x.lasts(0, 0, true), 0);
        due("all LEGS of a PAIR", x.lasts(0, 1, true), 0);
        x.turn(0, 0);
        due("no LEGS", x.lasts(0, 0, false), 0);
        due("a PAIR that MAY not be sent", x.lasts(0, 1, false), 9);

        about("NoSuchElementException: no such TEAM, UNIT.");
        for (boolean rest : new boolean[] {false, true}) {
            for (int t : NO_TEAM) refuses("lasts(" + t + ", 0, " + rest + ")", NO_SUCH, z -> z.lasts(t, 0, rest));
            for (int u : new int[] {LEAST, -1, 3, 6, MOST}) for (int t = 0; t < 2; t++) {
                int team = t;
                refuses("lasts(" + t + ", " + u + ", " + rest + ")", NO_SUCH, z -> z.lasts(team, u, rest));
            }
        }
    }

    private static void saying() {
        under("Promise 29: say");
        about("All is SAID: of TEAM 0, then, behind a /, of TEAM 1: its GOALS, of each UNIT l (a LINE) or p (a PAIR) and its LEGS, and . if it STAYS with it;");
        LastChange x = told("clock 10;team 0;line 0 0 10 1 1;line 0 0 9 1 1;pair 0 0 15 1 1;team 0;line 0 0 1 1 1;pair 0 0 11 1 1;pair 0 0 2 1 1;");
        due("say()", said(x), "0l10l9p15*/0l1p11p2@10");
        x.set(0, 0, 9);
        x.set(1, 0, 10);
        due("GOALS", said(x), "9l10l9p15*/10l1p11p2@10");
        x.set(0, 2, 2);
        x.set(1, 2, 0);
        due("both STAY", said(x), "9l10l9p15.*/10l1.p11p2@10");
        x.set(0, 2, 0);
        x.set(1, 2, 2);
        due("both STAY", said(x), "9l10.l9p15*/10l1p11p2.@10");

        about("+ and for how many TURNS, if it is SHORT; ^ if its KEEPER is PULLED; * if it is LAST; then @ and CLOCK: how many bytes.");
        LastChange y = told("clock 9;team 0;" + L + "team 0;" + L);
        due("say() of one figure each", y.say(), 10);
        for (int n : new int[] {1, 9, 10, 15}) {
            y.set(0, 1, n);
            due("TEAM 0 SHORT", said(y), "0l1+" + n + "*/0l1@9");
        }
        y.set(0, 1, 0);
        y.set(1, 1, 15);
        y.set(1, 3, 1);
        y.see(1);
        due("TEAM 1 SHORT, PULLED, LAST", said(y), "0l1/0l1+15^*@9");
        y.set(0, 3, 1);
        due("both PULLED", said(y), "0l1^/0l1+15^*@9");
        String six = "line 0 0 15 1 1;".repeat(4) + "pair 0 0 15 1 1;".repeat(2);
        LastChange most = told("clock 99;team 0;" + six + "team 0;" + six);
        for (int t = 0; t < 2; t++) {
            most.set(t, 0, 99);
            most.set(t, 1, 15);
            most.set(t, 2, 5 - 5 * t);
            most.set(t, 3, 1);
        }
        due("say() of all that can be", most.say(), 55);
        due("all that can be", said(most), "99l15l15l15l15p15p15.+15^*/99l15.l15l15l15p15p15+15^@99");
        LastChange none = told("clock 1;team 0;" + L + "team 0;" + L);
        none.turn(0, 0);
        due("say() of least", said(none), "0l0*/0l0@0");

        under("Promise 30: said");
        about("Byte i of what the latest say() SAID (as it was then, whatever came since);");
        LastChange z = told(game(L, L));
        z.image();
        z.say();
        String then = " said 0l1*/0l1@9";
        z.turn(0, 0);
        due("behind a TURN", lately(z), then);
        z.undo();
        z.set(0, 0, 5);
        z.see(1);
        due("behind what was set", lately(z), then);
        tell(z, USUAL);
        due("behind game()", lately(z), then);
        tell(z, "clock");
        due("behind a FAULT", lately(z), then);
        z.back();
        due("behind back()", lately(z), then);
        z.play(0, 5, 0, 0);
        z.undo();
        due("behind undo()", lately(z), then);
        z.set(0, 0, 99);
        z.say();
        due("behind a second say()", lately(z), " said 99l1*/0l1@9");
        z.set(0, 0, 0);
        z.say();
        due("behind a shorter one", lately(z), then);

        about("NONE: there is none such, nothing was SAID.");
        for (int i : new int[] {LEAST, -1, 10, 11, 63, 64, 1000, MOST}) due("said(" + i + ") of 10", z.said(i), NONE);
        due("said(9)", z.said(9), '9');
        most.say();
        due("said(54) of 55", most.said(54), '9');
        due("said(55) of 55", most.said(55), NONE);
        for (int i : new int[] {LEAST, -1, 0, 1, MOST}) due("said(" + i + ") of nothing", new LastChange().said(i), NONE);
    }

    private static void undoing() {
        under("Promise 31: undo");
        about("The latest ACT is UNDONE: how many are kept then;");
        LastChange x = told(game(L, L));
        for (int i = 1; i <= 20; i++) x.set(0, 0, i);
        for (int i = 15; i >= 0; i--) {
            due("undo()", x.undo(), i);
            due("ACTS", x.count(3), i);
            due("GOALS", x.team(0, 3), i + 4);
        }
        LastChange all = told(USUAL);
        all.set(0, 2, 1);
        all.set(1, 2, 1);
        all.set(0, 1, 15);
        all.set(1, 1, 1);
        String before = all(all);
        all.turn(1, 1);
        due("undo() of a TURN", all.undo(), 4);
        due("all is as it was: STAYS, SHORT, LEGS, CLOCK", all(all), before);
        all.play(0, 10, 3, 3);
        due("undo() of a GAME", all.undo(), 4);
        due("all is as it was", all(all), before);

        about("NONE: none was.");
        due("undo() of a new object", new LastChange().undo(), NONE);
        String state = said(x);
        for (int i = 0; i < 3; i++) due("undo() of none left", x.undo(), NONE);
        due("nothing changes", said(x), state);
        x.see(1);
        tell(x, game(L, L));
        due("undo() behind game()", x.undo(), NONE);
        x.image();
        x.see(1);
        x.back();
        due("undo() behind back()", x.undo(), NONE);
        x.see(1);
        tell(x, "clock");
        due("undo() behind a FAULT", x.undo(), 0);
        x.see(1);
        x.image();
        due("undo() behind image()", x.undo(), 0);
        x.back();
        due("back() behind it", x.count(1), 1);
    }

    private static void images() {
        under("Promise 32: image");
        about("All (but ACTS, the tape, fault()) is kept (in place of what was).");
        LastChange x = busy();
        String state = all(x).replaceAll(NOT_KEPT, "$1 $2");
        int acts = x.count(3);
        x.image();
        due("ACTS stay", x.count(3), acts);
        due("the tape stays", x.count(4), 20);
        due("fault() stays", x.fault(), 6);
        x.set(0, 2, 1);
        x.set(1, 1, 0);
        x.see(1);
        x.game(0);
        due("another game()", tell(x, "clock 5;extra 7;team last 9;line 1 1 1 1 1;team last 9;" + L.repeat(4) + P), 0);
        due("a TURN of it", x.turn(0, 3), 4);
        due("a FAULT", tell(x, "clock 1;team 100"), 2);
        feed(x, " ".repeat(40));
        x.back();
        due("all", all(x).replaceAll(NOT_KEPT, "$1 $2"), state);
        due("ACTS aren't kept", x.count(3), 0);
        due("the tape isn't kept", x.count(4), 40);
        due("fault() isn't kept", x.fault(), 13);
        LastChange y = told(game(L, L));
        y.image();
        y.set(0, 0, 1);
        y.image();
        y.set(0, 0, 2);
        y.back();
        due("in place of what was", y.team(0, 3), 1);
        y.set(0, 0, 3);
        y.undo();
        y.back();
        due("again", y.team(0, 3), 1);
        LastChange first = new LastChange();
        first.image();
        tell(first, USUAL);
        first.back();
        due("a new object's", all(first), all(new LastChange()));

        under("Promise 33: back");
        about("All is as it was kept (ACTS are gone): true;");
        y.set(0, 0, 50);
        y.turn(0, 0);
        due("back()", y.back() ? 1 : 0, 1);
        due("all", said(y), "1l1*/0l1@9");
        due("ACTS", y.count(3), 0);
        due("undo()", y.undo(), NONE);
        due("back() again", y.back() ? 1 : 0, 1);
        y.set(0, 0, 60);
        due("undo() of what came behind", y.undo(), 0);
        due("all", said(y), "1l1*/0l1@9");
        tell(y, USUAL);
        due("back() behind game()", y.back() ? 1 : 0, 1);
        due("all", said(y), "1l1*/0l1@9");

        about("false (nothing changes): nothing was.");
        LastChange none = told(USUAL);
        none.set(0, 0, 5);
        feed(none, "clock");
        String before = all(none);
        due("back()", none.back() ? 1 : 0, 0);
        due("all", all(none), before);
        due("ACTS stay", none.undo(), 0);
        due("back() of a new object", new LastChange().back() ? 1 : 0, 0);
    }

    private static void manyCalls() {
        under("What it is");
        about("An object is used for at most 512 calls after it has been made;");
        LastChange x = told(game(L, L));
        for (int i = 4; i < 511; i++) x.set(0, 0, i % 100);
        due("the 512th call", x.team(0, 3), 10);
    }

    public static void main(String[] args) throws IOException {
        promises(23, 33);
        turns();
        plays();
        manyGames();
        setting();
        lasting();
        saying();
        undoing();
        images();
        manyCalls();
        close("ActingTest", args);
    }
}
