import java.io.IOException;

/** Promises 1 to 10, sentence by sentence: their ends, their wrong inputs, what stays when a call is refused. */
public final class AskingTest extends Sentences {
    private static void newObject() {
        under("Promise 1: A new object");
        LastChange x = new LastChange();
        about("Two TEAMS with a LINE each of all numbers 0, but FULL, TIRES, RESTS 1;");
        for (int t = 0; t < 2; t++) {
            int team = t;
            int[] unit = {0, 0, 1, 1, 1, 1, 0, 0}, all = {1, 0, 0, 0, 0, 0, NONE, 1, 1};
            for (int w = 0; w < 8; w++) due("unit(" + t + ", 0, " + w + ")", x.unit(t, 0, w), unit[w]);
            for (int w = 0; w < 9; w++) due("team(" + t + ", " + w + ")", x.team(t, w), all[w]);
            throwsIt(x, "a second UNIT", NO_SUCH, y -> y.unit(team, 1, 0));
        }
        due("say()", said(x), "0l1*/0l1@0");
        due("count(5)", x.count(5), 1);
        due("ACTS", x.count(3), 0);
        due("the tape", x.count(4), 0);
        due("EXTRA", x.count(2), 150);

        about("SAVES 0;");
        for (int t = 0; t < 2; t++) {
            due("SAVE", x.team(t, 2), 0);
            due("CHANCE", x.chance(t, 0, 0), 100);
        }

        about("CLOCK 0.");
        due("CLOCK", x.count(0), 0);
        due("turn(0, 0)", x.turn(0, 0), HIDDEN);
        due("play", x.play(1, 99, 0, 0), 0);
    }

    private static void feeding() {
        under("Promise 2: feed");
        about("Twenty bytes come behind the tape, of each number the highest first:");
        for (int at = 0; at < 60; at++) {
            LastChange x = new LastChange();
            feed(x, " ".repeat(at) + "!" + " ".repeat(59 - at));
            due("game(60) of blanks and a ! at " + at, x.game(60), 1);
            due("its place", x.fault(), at);
        }
        LastChange order = new LastChange();
        order.feed(0x636c6f63, 0x6b313b74, 0x65616d30, 0x3b202020, 0x20202020);
        order.feed(0x6c696e65, 0x30203020, 0x31203120, 0x313b7465, 0x616d303b);
        order.feed(0x6c696e65, 0x30203020, 0x31203120, 0x313b2020, 0x202020ff);
        due("game(59) of numbers by hand", order.game(59), 0);
        due("CLOCK", order.count(0), 1);
        order.feed(-1, -1, -1, -1, -1);
        due("bytes of 255", order.game(20), 1);

        about("how many it has;");
        LastChange x = new LastChange();
        for (int i = 1; i <= 25; i++) {
            due("feed", x.feed(0x20202020, LEAST, MOST, -1, 0), 20 * i);
            due("count(4)", x.count(4), 20 * i);
        }

        about("NONE, and none come, if it would have more than 500.");
        for (int i = 0; i < 3; i++) {
            due("feed", x.feed(0x21212121, 1, 2, 3, 4), NONE);
            due("count(4)", x.count(4), 500);
        }
        LastChange y = new LastChange();
        String text = " ".repeat(500 - game(L, L).length()) + game(L, L);
        feed(y, text);
        due("feed to a full tape", y.feed(0x21212121, 0x21212121, 0, 0, 0), NONE);
        due("game(500)", y.game(500), 0);
        due("feed to an empty tape", y.feed(0, 0, 0, 0, 0), 20);
    }

    private static void telling() {
        under("Promise 3: game");
        about("The tape's first n bytes");
        LastChange x = new LastChange();
        feed(x, game(L, L) + "!!!!!!!!!!!!!!!!!!!!!!!!!!");
        due("game() of the first ones", x.game(game(L, L).length()), 0);
        feed(x, game(L, L) + "!");
        due("game() of one more", x.game(game(L, L).length() + 1), 1);
        feed(x, game(L, L));
        due("game() of one less", x.game(game(L, L).length() - 1), 1);
        due("its place", x.fault(), game(L, L).length() - 1);
        due("game(0) of an empty tape", x.game(0), 1);
        due("its place", x.fault(), 0);
        feed(x, game(L, L));
        due("game(0) of a full one", x.game(0), 1);
        feed(x, "clock 1;team 0;" + L.repeat(2) + " ".repeat(500));
        due("game(500)", x.game(500), 4);
        due("its place", x.fault(), 500);

        int[][] cuts = {{4, 1, 0}, {5, 1, 5}, {6, 1, 6}, {7, 1, 7}, {8, 1, 8}, {9, 2, 6}};
        for (int[] cut : cuts) {
            feed(x, "clock 999;");
            due("game(" + cut[0] + ") of clock 999;", x.game(cut[0]), cut[1]);
            due("its place", x.fault(), cut[2]);
        }

        about("(it is empty then, with a FAULT, too)");
        feed(x, game(L, L) + "!".repeat(60));
        x.game(game(L, L).length());
        due("the tape without a FAULT", x.count(4), 0);
        due("the next feed", x.feed(0x20202021, 0, 0, 0, 0), 20);
        due("game(20)", x.game(20), 1);
        due("its place", x.fault(), 3);
        due("the tape with a FAULT", x.count(4), 0);
        feed(x, game(L, L));
        x.game(0);
        due("the tape behind game(0)", x.count(4), 0);
        throwsIt(x, "game(1) then", ILLEGAL, z -> z.game(1));

        about("are a GAME, all anew (ACTS are gone):");
        LastChange y = told(USUAL);
        y.see(1);
        for (int t = 0; t < 2; t++) {
            y.set(t, 0, 50);
            y.turn(1, 1);
            y.set(t, 1, 5);
            y.set(t, 2, 1);
            y.set(t, 3, 1);
        }
        due("ACTS ahead", y.count(3), 11);
        due("game()", tell(y, game("line 1 2 3 4 5;", "line 6 7 8 1 2;line 1 1 1 1 1;")), 0);
        due("all", all(y), "9 0 150 0 0 2 fault -1 team 1 0 0 0 0 0 -1 1 3, 1 2 3 4 5 3 team 2 0 0 0 0 0 -1 3 9, 6 7 8 1 2 8, 1 1 1 1 1 1");
        due("undo()", y.undo(), NONE);
        throwsIt(y, "a UNIT that was", NO_SUCH, z -> z.unit(0, 1, 0));

        about("0, or the FAULT (all else stays).");
        String[] texts = {"", "clock 100;", game(L, L) + "team", "clock 1;", game("line 9 9 9 7 7;", "line 9 9 9 7 7;") + "x", "clock 5;extra 7;team last 9;" + L + "team last 9;" + L + "line 0 0 1 1 8;"};
        int[] codes = {1, 2, 3, 4, 1, 2};
        for (int i = 0; i < texts.length; i++) {
            LastChange a = busy(), b = busy();
            a.game(0);
            b.game(0);
            due("game() of \"" + texts[i] + "\"", tell(a, texts[i]), codes[i]);
            String got = all(a).replaceAll("fault \\d+ ", ""), want = all(b).replaceAll("fault \\d+ ", "");
            due("all behind it", got + lately(a), want + lately(b));
            due("undo() behind it", a.undo(), b.undo());
            due("undo() behind it", a.undo(), b.undo());
            due("all behind that", all(a).replaceAll("fault \\d+ ", ""), all(b).replaceAll("fault \\d+ ", ""));
            due("back() behind it", a.back() ? 1 : 0, 1);
        }

        about("IllegalArgumentException: the tape has not so many, n below 0 (nothing changes).");
        for (int n : new int[] {21, 22, 500, 501, MOST, -1, -20, LEAST}) refuses("game(" + n + ") of 20", ILLEGAL, z -> z.game(n));
        throwsIt(new LastChange(), "game(1) of none", ILLEGAL, z -> z.game(1));
        LastChange full = new LastChange();
        feed(full, " ".repeat(500));
        throwsIt(full, "game(501) of 500", ILLEGAL, z -> z.game(501));
        due("game(500) of 500", full.game(500), 1);
    }

    private static void faultPlaces() {
        under("Promise 4: fault");
        about("The place of the latest game()'s FAULT");
        LastChange x = new LastChange();
        due("game()", tell(x, "clock 100"), 2);
        due("fault()", x.fault(), 6);
        due("game()", tell(x, "x"), 1);
        due("fault() of the latest one", x.fault(), 0);
        due("game()", tell(x, " ".repeat(499) + "x"), 1);
        due("fault() of the last byte", x.fault(), 499);
        due("game()", tell(x, "clock 1;" + " ".repeat(492)), 4);
        due("fault() of a full tape's end", x.fault(), 500);
        x.turn(0, 0);
        x.set(0, 0, 1);
        x.undo();
        x.image();
        x.back();
        feed(x, "clock");
        due("fault() behind other calls", x.fault(), 500);

        about("(that was no IllegalArgumentException);");
        throwsIt(x, "game(21)", ILLEGAL, z -> z.game(21));
        throwsIt(x, "game(-1)", ILLEGAL, z -> z.game(-1));
        due("fault()", x.fault(), 500);

        about("NONE: it had none, or there was none.");
        due("fault() of a new object", new LastChange().fault(), NONE);
        x.game(0);
        due("game()", tell(x, game(L, L)), 0);
        due("fault()", x.fault(), NONE);
        throwsIt(x, "game(1)", ILLEGAL, z -> z.game(1));
        due("fault()", x.fault(), NONE);
    }

    private static void counting() {
        under("Promise 5: count");
        about("0 CLOCK, 1 LAST, 2 EXTRA, 3 ACTS that are kept, 4 bytes of the tape, 5 MEETINGS.");
        LastChange x = busy();
        int[] want = {9, 0, 200, 4, 20, 2};
        for (int w = 0; w < 6; w++) due("count(" + w + ")", x.count(w), want[w]);

        about("NoSuchElementException: another what.");
        for (int w : new int[] {LEAST, -1, 6, 7, MOST}) refuses("count(" + w + ")", NO_SUCH, z -> z.count(w));

        under("Promise 6: team");
        about("Of a TEAM: 0 LINES, 1 PAIRS, 2 SAVE, 3 GOALS, 4 SHORT, 5 whether its KEEPER is PULLED (1, 0), 6 the UNIT with which it STAYS (NONE), 7 UNITS that it MAY send (bits), 8 LEGS of all its UNITS together.");
        int[][] teams = {{2, 1, 20, 3, 0, 1, NONE, 3, 21}, {2, 1, 30, 0, 2, 0, NONE, 4, 18}};
        for (int t = 0; t < 2; t++) for (int w = 0; w < 9; w++) due("team(" + t + ", " + w + ")", x.team(t, w), teams[t][w]);
        x.set(0, 2, 2);
        due("it STAYS with a PAIR", x.team(0, 6), 2);
        due("it MAY send that", x.team(0, 7), 4);
        LastChange six = told(game("line 0 0 15 1 1;".repeat(4) + "pair 0 0 15 1 1;".repeat(2), L));
        due("LEGS of six together", six.team(0, 8), 90);

        about("NoSuchElementException: no such TEAM, another what.");
        for (int t : NO_TEAM) refuses("team(" + t + ", 0)", NO_SUCH, z -> z.team(t, 0));
        for (int w : new int[] {LEAST, -1, 9, MOST}) for (int t = 0; t < 2; t++) {
            int team = t;
            refuses("team(" + t + ", " + w + ")", NO_SUCH, z -> z.team(team, w));
        }
    }

    private static void units() {
        under("Promise 7: unit");
        about("Of a UNIT: 0 ATTACK, 1 GUARD, 2 FULL, 3 TIRES, 4 RESTS, 5 LEGS, 6 POWER of ATTACK, 7 of GUARD.");
        LastChange x = busy();
        int[][][] want = {{{60, 40, 10, 3, 2, 7, 42, 28}, {40, 60, 8, 2, 1, 8, 40, 60}, {30, 50, 6, 2, 2, 6, 30, 50}},
            {{50, 50, 10, 4, 3, 10, 50, 50}, {45, 30, 5, 1, 1, 4, 36, 24}, {20, 40, 4, 1, 1, 4, 20, 40}}};
        for (int t = 0; t < 2; t++) for (int u = 0; u < 3; u++) for (int w = 0; w < 8; w++) {
            due("unit(" + t + ", " + u + ", " + w + ")", x.unit(t, u, w), want[t][u][w]);
        }

        about("NoSuchElementException: no such TEAM, UNIT, another what.");
        for (int t : NO_TEAM) refuses("unit(" + t + ", 0, 0)", NO_SUCH, z -> z.unit(t, 0, 0));
        for (int u : new int[] {LEAST, -1, 3, 6, MOST}) for (int w = 0; w < 8; w++) {
            int what = w;
            refuses("unit(1, " + u + ", " + w + ")", NO_SUCH, z -> z.unit(1, u, what));
        }
        for (int w : new int[] {LEAST, -1, 8, MOST}) refuses("unit(0, 0, " + w + ")", NO_SUCH, z -> z.unit(0, 0, w));

        under("Promise 8: chance");
        about("CHANCE of a TEAM by its UNIT and the other one's.");
        LastChange y = told(game("line 10 20 1 1 1;pair 30 40 1 1 1;", "line 5 6 1 1 1;line 7 8 1 1 1;"));
        int[][] home = {{108, 104}, {148, 144}}, away = {{70, 30}, {74, 34}};
        for (int a = 0; a < 2; a++) for (int b = 0; b < 2; b++) {
            due("chance(0, " + a + ", " + b + ")", y.chance(0, a, b), home[a][b]);
            due("chance(1, " + a + ", " + b + ")", y.chance(1, a, b), away[a][b]);
        }

        about("NoSuchElementException: no such TEAM, UNITS.");
        for (int t : NO_TEAM) refuses("chance(" + t + ", 0, 0)", NO_SUCH, z -> z.chance(t, 0, 0));
        for (int t = 0; t < 2; t++) for (int u : new int[] {LEAST, -1, 3, MOST}) {
            int team = t;
            refuses("chance(" + t + ", " + u + ", 0)", NO_SUCH, z -> z.chance(team, u, 0));
            refuses("chance(" + t + ", 0, " + u + ")", NO_SUCH, z -> z.chance(team, 0, u));
        }
        LastChange odd = told(game(L + L + L, L));
        due("chance(0, 2, 0)", odd.chance(0, 2, 0), 100);
        due("chance(1, 0, 2)", odd.chance(1, 0, 2), 100);
        throwsIt(odd, "chance(0, 0, 1)", NO_SUCH, z -> z.chance(0, 0, 1));
        throwsIt(odd, "chance(1, 1, 0)", NO_SUCH, z -> z.chance(1, 1, 0));
    }

    private static void orders() {
        under("Promise 9: meeting");
        about("The k-th MEETING (0 on): 0 its UNIT of TEAM 0, 1 of TEAM 1, 2 its EDGE.");
        LastChange x = told(USUAL);
        int[][] want = {{0, 1, 40}, {1, 1, 40}, {0, 0, -10}, {1, 0, -10}};
        for (int k = 0; k < 4; k++) for (int w = 0; w < 3; w++) due("meeting(" + k + ", " + w + ")", x.meeting(k, w), want[k][w]);
        LastChange all = told(game(L.repeat(4), L.repeat(4)));
        due("meeting(15, 0)", all.meeting(15, 0), 3);
        due("meeting(15, 1)", all.meeting(15, 1), 3);

        about("NoSuchElementException: there is none such, another what.");
        throwsIt(all, "meeting(16, 0)", NO_SUCH, z -> z.meeting(16, 0));
        for (int w = 0; w < 3; w++) for (int k : new int[] {LEAST, -1, 2, 16, MOST}) {
            int what = w;
            refuses("meeting(" + k + ", " + w + ") of 2", NO_SUCH, z -> z.meeting(k, what));
        }
        for (int w : new int[] {LEAST, -1, 3, MOST}) refuses("meeting(0, " + w + ")", NO_SUCH, z -> z.meeting(0, w));

        under("Promise 10: rested");
        about("The k-th UNIT (0 on) of a TEAM by LEGS, the greatest first, of like ones by POWER of ATTACK, the greatest first, then by numbers.");
        String six = "line 10 0 5 1 1;line 20 0 5 1 1;line 20 0 15 1 1;line 10 99 5 1 1;pair 99 0 3 1 1;pair 0 0 5 1 1;";
        for (int t = 0; t < 2; t++) {
            LastChange y = told(t == 0 ? game(six, L) : game(L, six));
            int[] order = {2, 1, 0, 3, 5, 4};
            for (int k = 0; k < 6; k++) due("rested(" + t + ", " + k + ")", y.rested(t, k), order[k]);
        }
        LastChange tired = told(game("line 30 0 9 1 1;line 60 0 9 5 1;line 20 0 4 1 1;", L));
        tired.turn(1, 0);
        // LEGS 9, 4, 4; POWERS 30, 26, 20.
        int[] order = {0, 1, 2};
        for (int k = 0; k < 3; k++) due("rested(0, " + k + ") of the tired", tired.rested(0, k), order[k]);
        LastChange power = told(game("line 30 0 9 5 1;line 29 0 4 1 1;", L));
        power.turn(0, 0);
        // LEGS 4, 4; POWERS 13, 29: POWER, not ATTACK.
        due("rested(0, 0) by POWER", power.rested(0, 0), 1);
        due("rested(0, 1) by POWER", power.rested(0, 1), 0);

        LastChange legs = told(game("line 99 0 4 1 1;line 0 0 5 1 1;line 99 0 14 1 1;line 0 0 15 1 1;", L));
        int[] byLegs = {3, 2, 1, 0};
        for (int k = 0; k < 4; k++) due("rested(0, " + k + ") by LEGS ahead of all POWER", legs.rested(0, k), byLegs[k]);

        about("NoSuchElementException: no such TEAM; there is none such.");
        for (int t : NO_TEAM) refuses("rested(" + t + ", 0)", NO_SUCH, z -> z.rested(t, 0));
        for (int k : new int[] {LEAST, -1, 3, 6, MOST}) for (int t = 0; t < 2; t++) {
            int team = t;
            refuses("rested(" + t + ", " + k + ")", NO_SUCH, z -> z.rested(team, k));
        }
    }

    public static void main(String[] args) throws IOException {
        promises(1, 10);
        newObject();
        feeding();
        telling();
        faultPlaces();
        counting();
        units();
        orders();
        close("AskingTest", args);
    }
}
