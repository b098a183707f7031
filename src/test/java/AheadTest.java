import java.io.IOException;

/** Promises 11 to 22, sentence by sentence: TURNS ahead, ROTATION, GIVEN, PULL: their ends, wrong inputs, orders of refusal. */
public final class AheadTest extends Sentences {
    /** POWERS of ATTACK of TEAM 0's LINE in four TURNS: 30, 28, 26, 24: EDGES twice as much. */
    private static final String RUNS_DOWN = game("line 30 0 15 1 1;", L);

    /** LINE 0 of TEAM 0 is worth 200 fresh, 132 with 2 LEGS, 66 with 1, LINE 1 nothing. */
    private static final String RESTS = "clock 0;team last 0;line 60 40 3 3 1;line 0 0 1 1 1;team 0;line 0 0 15 1 1;";

    /** With TEAM 0's KEEPER PULLED EDGES are: 0,0 310; 0,1 338; 1,0 350; 1,1 300. */
    private static LastChange cycle(int last) {
        LastChange x = told("clock 9;extra 300;team 0;line 99 0 9 1 1;line 60 20 9 1 1;team 0;line 20 0 9 1 1;line 0 80 9 1 1;");
        x.set(0, 3, 1);
        x.see(last);
        return x;
    }

    /** Four LINES and two PAIRS against one LINE; who is LAST is told. */
    private static LastChange uneven(int last) {
        LastChange x = told(game(L.repeat(4) + P + P, L));
        x.see(last);
        return x;
    }

    private static void values() {
        under("Promise 11: value");
        about("VALUE of k TURNS (0 to 4).");
        int[] sums = {0, 60, 116, 168, 216};
        LastChange x = told(RUNS_DOWN);
        String before = all(x);
        for (int k = 0; k <= 4; k++) due("value(" + k + ")", x.value(k), sums[k]);
        due("nothing changes", all(x), before);
        due("value(0) of a great EDGE", cycle(0).value(0), 0);

        about("IllegalArgumentException: k.");
        for (int k : new int[] {LEAST, -1, 5, 6, MOST}) refuses("value(" + k + ")", ILLEGAL, z -> z.value(k));

        under("Promise 12: first");
        about("FIRST by k TURNS.");
        due("TEAM 1 sends first", cycle(0).first(1), 1);
        due("TEAM 0 sends first", cycle(1).first(1), 0);
        // LINE 0 of TEAM 0 with 2 of 4 LEGS: 80, LINE 1: 78; by more TURNS it is left out first.
        LastChange y = told(game("line 80 0 4 2 2;line 39 0 9 1 1;", "line 0 0 9 1 1;"));
        y.turn(0, 0);
        y.see(1);
        due("first(1)", y.first(1), 0);
        for (int k = 2; k <= 4; k++) due("first(" + k + ")", y.first(k), 1);
        y.set(0, 2, 0);
        for (int k = 1; k <= 4; k++) due("first(" + k + ") of who STAYS", y.first(k), 0);

        about("IllegalArgumentException: k isn't 1 to 4.");
        for (int k : NO_AHEAD) refuses("first(" + k + ")", ILLEGAL, z -> z.first(k));
    }

    private static void replies() {
        under("Promise 13: reply");
        about("REPLY to a UNIT of the TEAM that sends first, by k TURNS.");
        due("TEAM 0 sees c", cycle(0).reply(0, 1), 1);
        due("TEAM 0 sees d", cycle(0).reply(1, 1), 0);
        due("TEAM 1 sees a", cycle(1).reply(0, 1), 0);
        due("TEAM 1 sees b", cycle(1).reply(1, 1), 1);
        LastChange y = told(game("line 80 0 4 2 2;line 39 0 9 1 1;", "line 0 0 9 1 1;"));
        y.turn(0, 0);
        due("reply(0, 1)", y.reply(0, 1), 0);
        for (int k = 2; k <= 4; k++) due("reply(0, " + k + ")", y.reply(0, k), 1);

        about("NoSuchElementException: it MAY not be sent.");
        due("TEAM 0 sends first: its last LINE", uneven(1).reply(3, 1), 0);
        for (int u : new int[] {4, 5, 6, -1, LEAST, MOST}) refuses(() -> uneven(1), "reply(" + u + ", 1), TEAM 0 sends first", NO_SUCH, z -> z.reply(u, 1));
        due("TEAM 1 sends first: its LINE", uneven(0).reply(0, 4), 0);
        for (int u : new int[] {1, 2, 3, -1}) refuses(() -> uneven(0), "reply(" + u + ", 1), TEAM 1 sends first", NO_SUCH, z -> z.reply(u, 1));
        for (int u : new int[] {0, 1, 3}) refuses("reply(" + u + ", 1) of who is SHORT", NO_SUCH, z -> z.reply(u, 1));
        due("its PAIR MAY be", busy().reply(2, 1) >= 0 ? 1 : 0, 1);
        LastChange stays = uneven(1);
        stays.set(0, 2, 4);
        due("a PAIR with which it STAYS", stays.reply(4, 2), 0);
        throwsIt(stays, "reply(0, 1) of who STAYS", NO_SUCH, z -> z.reply(0, 1));

        about("IllegalArgumentException (behind that): k isn't 1 to 4.");
        for (int k : NO_AHEAD) {
            refuses("reply(2, " + k + ")", ILLEGAL, z -> z.reply(2, k));
            refuses("reply(0, " + k + ")", NO_SUCH, z -> z.reply(0, k));
        }

        under("Promise 14: by");
        about("EDGE of UNITS x, y (sent now) and VALUE of k - 1 TURNS behind that TURN, together.");
        LastChange x = told(RUNS_DOWN);
        int[] sums = {0, 60, 116, 168, 216};
        for (int k = 1; k <= 4; k++) due("by(0, 0, " + k + ")", x.by(0, 0, k), sums[k]);
        int[][] edges = {{310, 338}, {350, 300}};
        for (int a = 0; a < 2; a++) for (int b = 0; b < 2; b++) for (int last = 0; last < 2; last++) {
            due("by(" + a + ", " + b + ", 1)", cycle(last).by(a, b, 1), edges[a][b]);
        }
        LastChange rests = told(RESTS);
        due("by(1, 0, 4)", rests.by(1, 0, 4), 200 + 66);
        due("by(0, 0, 4)", rests.by(0, 0, 4), 200 + 132);

        about("NoSuchElementException: one MAY not be sent.");
        for (int u : new int[] {2, 3, -1, LEAST, MOST}) refuses("by(" + u + ", 2, 1)", NO_SUCH, z -> z.by(u, 2, 1));
        for (int u : new int[] {0, 1, 3, -1, LEAST, MOST}) refuses("by(0, " + u + ", 1)", NO_SUCH, z -> z.by(0, u, 1));
        LastChange both = told(game(L + L, L + L));
        both.set(0, 2, 1);
        both.set(1, 2, 0);
        due("who STAYS", both.by(1, 0, 2), 0);
        int[][] not = {{0, 0}, {1, 1}, {0, 1}};
        for (int[] n : not) throwsIt(both, "by(" + n[0] + ", " + n[1] + ", 1) of who STAYS", NO_SUCH, z -> z.by(n[0], n[1], 1));

        about("IllegalArgumentException (behind that): k isn't 1 to 4.");
        for (int k : NO_AHEAD) {
            refuses("by(0, 2, " + k + ")", ILLEGAL, z -> z.by(0, 2, k));
            refuses("by(2, 2, " + k + ")", NO_SUCH, z -> z.by(2, 2, k));
            refuses("by(0, 0, " + k + ")", NO_SUCH, z -> z.by(0, 0, k));
        }
    }

    private static void bests() {
        under("Promise 15: best");
        about("THE PLAY of k TURNS: turn by turn FIRST and REPLY by as many TURNS as are left of k (that one, too; CLOCK isn't asked):");
        LastChange x = told(RESTS);
        // By 3 TURNS 200, 0, 66; by 4 200, 0, 0, 132: by RESTS, CLOCK 0.
        int[][] units = {{0}, {0, 0}, {0, 1, 0}, {0, 1, 1, 0}};
        int[][] edges = {{200}, {200, 0}, {200, 0, 66}, {200, 0, 0, 132}};
        for (int k = 1; k <= 4; k++) for (int i = 0; i < k; i++) {
            due("best(" + k + ", " + i + ", 0)", x.best(k, i, 0), units[k - 1][i]);
            due("best(" + k + ", " + i + ", 2)", x.best(k, i, 2), edges[k - 1][i]);
        }

        about("of its i-th TURN (0 on) the UNIT of TEAM 0 (what 0), of TEAM 1 (1), their EDGE then (2).");
        int[][] want = {{0, 1, 338}, {0, 0, 310}};
        for (int last = 0; last < 2; last++) for (int w = 0; w < 3; w++) due("best(1, 0, " + w + "), LAST " + last, cycle(last).best(1, 0, w), want[last][w]);
        for (int last = 0; last < 2; last++) for (int k = 1; k <= 4; k++) {
            LastChange y = cycle(last);
            int sum = 0;
            for (int i = 0; i < k; i++) sum += y.best(k, i, 2);
            due("EDGES of THE PLAY together, k " + k, sum, y.value(k));
        }
        LastChange mirrored = told("clock 0;team 0;line 0 0 15 1 1;team 0;line 60 40 3 3 1;line 0 0 1 1 1;");
        for (int last = 0; last < 2; last++) {
            mirrored.see(last);
            for (int i = 0; i < 4; i++) {
                due("best(4, " + i + ", 1) mirrored", mirrored.best(4, i, 1), units[3][i]);
                due("best(4, " + i + ", 2) mirrored", mirrored.best(4, i, 2), -edges[3][i]);
            }
        }

        about("NoSuchElementException: no such TURN, another what.");
        for (int k = 1; k <= 4; k++) for (int i : new int[] {LEAST, -1, k, MOST}) {
            int turns = k;
            refuses("best(" + k + ", " + i + ", 0)", NO_SUCH, z -> z.best(turns, i, 0));
        }
        for (int w : new int[] {LEAST, -1, 3, MOST}) refuses("best(2, 1, " + w + ")", NO_SUCH, z -> z.best(2, 1, w));

        about("IllegalArgumentException (ahead of that): k isn't 1 to 4.");
        for (int k : NO_AHEAD) {
            refuses("best(" + k + ", 0, 0)", ILLEGAL, z -> z.best(k, 0, 0));
            refuses("best(" + k + ", -1, 0)", ILLEGAL, z -> z.best(k, -1, 0));
            refuses("best(" + k + ", 0, 3)", ILLEGAL, z -> z.best(k, 0, 3));
        }
    }

    private static void costs() {
        under("Promise 16: cost");
        about("VALUE of k TURNS by how much more, were a TEAM SHORT for n TURNS (0 to 15).");
        int[] values = {216, 18, -184, -390, -600, -600};
        int[] shorts = {0, 1, 2, 3, 4, 15};
        String own = "line 30 0 15 1 1;pair 0 0 15 1 1;";
        for (int t = 0; t < 2; t++) for (int now = 0; now < shorts.length; now++) {
            LastChange x = told(t == 0 ? game(own, L) : game(L, own));
            x.set(t, 1, shorts[now]);
            for (int n = 0; n < shorts.length; n++) {
                due("cost(" + t + ", " + shorts[n] + ", 4), SHORT for " + shorts[now], x.cost(t, shorts[n], 4), (t == 0 ? 1 : -1) * (values[n] - values[now]));
            }
            due("SHORT stays", x.team(t, 4), shorts[now]);
            due("ACTS stay", x.count(3), 1);
        }
        LastChange y = told(RESTS);
        // 220 - 20; SHORT 110 - 40; TEAM 1 SHORT 440 - 10.
        due("cost(0, 1, 1)", y.cost(0, 1, 1), -130);
        due("cost(1, 1, 1)", y.cost(1, 1, 1), 230);
        y.set(1, 1, 1);
        due("cost(0, 1, 1), TEAM 1 SHORT, too", y.cost(0, 1, 1), -230);

        about("NoSuchElementException: no such TEAM.");
        for (int t : NO_TEAM) refuses("cost(" + t + ", 0, 1)", NO_SUCH, z -> z.cost(t, 0, 1));

        about("IllegalArgumentException (behind that): n, k isn't 1 to 4.");
        for (int n : new int[] {LEAST, -1, 16, MOST}) {
            refuses("cost(0, " + n + ", 1)", ILLEGAL, z -> z.cost(0, n, 1));
            refuses("cost(1, " + n + ", 0)", ILLEGAL, z -> z.cost(1, n, 0));
            refuses("cost(2, " + n + ", 1)", NO_SUCH, z -> z.cost(2, n, 1));
        }
        for (int k : NO_AHEAD) {
            refuses("cost(0, 0, " + k + ")", ILLEGAL, z -> z.cost(0, 0, k));
            refuses("cost(-1, 0, " + k + ")", NO_SUCH, z -> z.cost(-1, 0, k));
        }
    }

    private static void sight() {
        under("Promise 17: seeing");
        about("SEEING by k TURNS.");
        for (int last = 0; last < 2; last++) {
            due("seeing(1)", cycle(last).seeing(1), 28);
            for (int k = 1; k <= 4; k++) due("seeing(" + k + ")", cycle(last).seeing(k), cycle(0).value(k) - cycle(1).value(k));
            LastChange x = cycle(last);
            x.seeing(2);
            due("LAST stays", x.count(1), last);
        }

        about("IllegalArgumentException: k isn't 1 to 4.");
        for (int k : NO_AHEAD) refuses("seeing(" + k + ")", ILLEGAL, z -> z.seeing(k));

        under("Promise 18: blind");
        about("BLIND of k TURNS (what 0, 1).");
        int[] sums = {0, 60, 116, 168, 216};
        for (int k = 1; k <= 4; k++) for (int w = 0; w < 2; w++) due("blind(" + k + ", " + w + ")", told(RUNS_DOWN).blind(k, w), sums[k]);
        due("blind(1, 0)", cycle(0).blind(1, 0), 310);
        due("blind(1, 1)", cycle(0).blind(1, 1), 338);

        about("NoSuchElementException: another what.");
        for (int w : new int[] {LEAST, -1, 2, MOST}) refuses("blind(1, " + w + ")", NO_SUCH, z -> z.blind(1, w));

        about("IllegalArgumentException (behind that): k isn't 1 to 4.");
        for (int k : NO_AHEAD) {
            refuses("blind(" + k + ", 0)", ILLEGAL, z -> z.blind(k, 0));
            refuses("blind(" + k + ", 1)", ILLEGAL, z -> z.blind(k, 1));
            refuses("blind(" + k + ", 2)", NO_SUCH, z -> z.blind(k, 2));
        }
    }

    private static void rotations() {
        under("Promise 19: rotation");
        about("ROTATION of n UNITS (1 to 8): EDGES together (i NONE), the i-th UNIT that TEAM 0 sends (0 on).");
        LastChange x = told(RESTS);
        int[] most = {200, 200, 266, 332, 400, 400, 466, 532};
        for (int n = 1; n <= 8; n++) due("rotation(0, " + n + ", NONE)", x.rotation(0, n, NONE), most[n - 1]);
        int[] row = {0, 1, 1, 0, 1, 1, 1, 0};
        for (int i = 0; i < 8; i++) due("rotation(0, 8, " + i + ")", x.rotation(0, 8, i), row[i]);
        due("nothing changes", said(x), "0l3l1*/0l15@0");

        about("HIDDEN: it is none (also with more than n figures; 0s ahead count).");
        LastChange y = told(game(L, L + L + P));
        int[][] is = {{0, 1}, {1, 1}, {1, 2}, {10, 2}, {1, 8}, {11111111, 8}, {10000000, 8}, {0, 8}};
        for (int[] f : is) due("rotation(" + f[0] + ", " + f[1] + ", NONE)", y.rotation(f[0], f[1], NONE), 0);
        int[][] not = {{10, 1}, {100, 2}, {11111111, 7}, {100000000, 8}, {MOST, 8}, {1000000000, 8}, {2, 1}, {3, 1}, {9, 1}, {12, 2}, {21, 2}, {20000000, 8}, {10000002, 8}};
        for (int[] f : not) for (int i : new int[] {NONE, 0}) {
            refused(() -> told(game(L, L + L + P)), "rotation(" + f[0] + ", " + f[1] + ", " + i + ")", "answered " + HIDDEN, z -> z.rotation(f[0], f[1], i));
        }
        LastChange four = told(game(L, L.repeat(4) + P + P));
        due("rotation(3210, 4, NONE)", four.rotation(3210, 4, NONE), 0);
        four.set(1, 1, 8);
        // TEAM 1 SHORT: 200 - 50 a TURN.
        due("rotation(45454545, 8, NONE), SHORT for 8", four.rotation(45454545, 8, NONE), 1200);
        due("rotation(45454540, 8, NONE), SHORT for 8", four.rotation(45454540, 8, NONE), HIDDEN);
        four.set(1, 1, 7);
        due("rotation(45454540, 8, NONE), SHORT for 7", four.rotation(45454540, 8, NONE), 1050);
        due("rotation(45454545, 8, NONE), SHORT for 7", four.rotation(45454545, 8, NONE), HIDDEN);

        about("NoSuchElementException (behind that): no such i.");
        for (int i : new int[] {LEAST, -2, 2, 3, 8, MOST}) {
            refuses("rotation(22, 2, " + i + ")", NO_SUCH, z -> z.rotation(22, 2, i));
            refused(Sentences::busy, "rotation(0, 2, " + i + ") of who is SHORT", "answered " + HIDDEN, z -> z.rotation(0, 2, i));
            refused(Sentences::busy, "rotation(222, 2, " + i + ")", "answered " + HIDDEN, z -> z.rotation(222, 2, i));
        }
        throwsIt(x, "rotation(0, 8, 8)", NO_SUCH, z -> z.rotation(0, 8, 8));
        throwsIt(x, "rotation(0, 1, 1)", NO_SUCH, z -> z.rotation(0, 1, 1));

        about("IllegalArgumentException (ahead of all): n, figures below 0.");
        for (int n : new int[] {LEAST, -1, 0, 9, 10, MOST}) for (int i : new int[] {NONE, 0, 99}) {
            refuses("rotation(2, " + n + ", " + i + ")", ILLEGAL, z -> z.rotation(2, n, i));
            refuses("rotation(9, " + n + ", " + i + ")", ILLEGAL, z -> z.rotation(9, n, i));
        }
        for (int figures : new int[] {-1, -2, LEAST}) for (int i : new int[] {NONE, 0, 99}) refuses("rotation(" + figures + ", 1, " + i + ")", ILLEGAL, z -> z.rotation(figures, 1, i));
    }

    private static void givens() {
        under("Promise 20: given");
        about("GIVEN: EDGES together (line NONE), the LINE of TEAM 1 for a LINE of TEAM 0 (NONE: none).");
        LastChange x = cycle(0);
        due("given(NONE)", x.given(NONE), 688);
        due("given(0)", x.given(0), 1);
        due("given(1)", x.given(1), 0);
        LastChange y = uneven(0);
        int[] want = {0, NONE, NONE, NONE};
        for (int i = 0; i < 4; i++) due("given(" + i + ") of four to one", y.given(i), want[i]);
        due("given(NONE) of like ones", y.given(NONE), 0);

        about("NoSuchElementException: no such LINE.");
        for (int line : new int[] {LEAST, -2, 4, 5, 6, MOST}) refuses(() -> uneven(0), "given(" + line + ") of four LINES, two PAIRS", NO_SUCH, z -> z.given(line));
        for (int line : new int[] {2, 3}) refuses("given(" + line + ") of two", NO_SUCH, z -> z.given(line));
        throwsIt(told(game(L, L.repeat(4))), "given(1) of one to four", NO_SUCH, z -> z.given(1));
    }

    private static void pulls() {
        under("Promise 21: odds");
        about("ODDS of PULL by UNITS x, y.");
        LastChange x = told("clock 0;extra 0;team 0;" + L + "pair 50 0 1 1 1;team 0;" + L + L + "pair 25 0 1 1 1;");
        due("odds(1, 0, 1, 0)", x.odds(1, 0, 1, 0), 550000);
        due("odds(0, 2, 1, 0)", x.odds(0, 2, 1, 0), 475000);
        due("odds(1, 2, 1, 0)", x.odds(1, 2, 1, 0), 525000);
        due("odds(0, 0, 60, 5)", x.odds(0, 0, 60, 5), 881655);
        due("odds(0, 0, 60, -5)", x.odds(0, 0, 60, -5), 118297);

        about("NoSuchElementException: no such UNITS.");
        for (int u : new int[] {LEAST, -1, 3, 6, MOST}) {
            refuses("odds(" + u + ", 0, 1, 0)", NO_SUCH, z -> z.odds(u, 0, 1, 0));
            refuses("odds(0, " + u + ", 1, 0)", NO_SUCH, z -> z.odds(0, u, 1, 0));
        }
        throwsIt(x, "odds(2, 0, 1, 0)", NO_SUCH, z -> z.odds(2, 0, 1, 0));
        throwsIt(x, "odds(0, 3, 1, 0)", NO_SUCH, z -> z.odds(0, 3, 1, 0));

        about("IllegalArgumentException (behind that): t, d.");
        for (int t : new int[] {LEAST, -1, 61, MOST}) {
            refuses("odds(0, 0, " + t + ", 0)", ILLEGAL, z -> z.odds(0, 0, t, 0));
            refuses("odds(3, 0, " + t + ", 0)", NO_SUCH, z -> z.odds(3, 0, t, 0));
            refuses("odds(0, 3, " + t + ", 6)", NO_SUCH, z -> z.odds(0, 3, t, 6));
        }
        for (int d : new int[] {LEAST, -6, 6, MOST}) {
            refuses("odds(0, 0, 0, " + d + ")", ILLEGAL, z -> z.odds(0, 0, 0, d));
            refuses("odds(-1, 0, 0, " + d + ")", NO_SUCH, z -> z.odds(-1, 0, 0, d));
        }

        under("Promise 22: when");
        about("WHEN of a lead d by UNITS x, y; NONE: none.");
        LastChange few = told("clock 1;extra 5;team 50;" + L + "pair 0 99 1 1 1;team 0;" + L);
        int[] when = {60, 7, 5, 3, 1, NONE, NONE, NONE, NONE, NONE, NONE};
        for (int d = -5; d <= 5; d++) due("when(0, 0, " + d + ")", few.when(0, 0, d), when[d + 5]);
        // By the PAIR TEAM 1 never makes a GOAL: PULLED is more as long as it isn't sure.
        due("when(1, 0, -1)", few.when(1, 0, -1), 60);
        for (int d = -5; d <= 5; d++) due("when(0, 0, " + d + ") of EXTRA 0", x.when(0, 0, d), NONE);

        about("NoSuchElementException: no such UNITS.");
        for (int u : new int[] {LEAST, -1, 3, MOST}) {
            refuses("when(" + u + ", 0, 0)", NO_SUCH, z -> z.when(u, 0, 0));
            refuses("when(0, " + u + ", 0)", NO_SUCH, z -> z.when(0, u, 0));
        }

        about("IllegalArgumentException (behind that): d.");
        for (int d : new int[] {LEAST, -6, 6, MOST}) {
            refuses("when(0, 0, " + d + ")", ILLEGAL, z -> z.when(0, 0, d));
            refuses("when(3, 0, " + d + ")", NO_SUCH, z -> z.when(3, 0, d));
            refuses("when(0, -1, " + d + ")", NO_SUCH, z -> z.when(0, -1, d));
        }
    }

    public static void main(String[] args) throws IOException {
        promises(11, 22);
        values();
        replies();
        bests();
        costs();
        sight();
        rotations();
        givens();
        pulls();
        close("AheadTest", args);
    }
}
