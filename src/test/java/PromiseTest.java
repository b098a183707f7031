import java.util.NoSuchElementException;

/**
 * Promise by promise: ordinary inputs, the edges that the document names, wrong inputs. What is due was
 * worked out from the document by hand, but where a comment says otherwise.
 */
public final class PromiseTest {
    private interface Call { long go(); }

    private static final Class<? extends RuntimeException> NO_SUCH = NoSuchElementException.class;
    private static final Class<? extends RuntimeException> ILLEGAL = IllegalArgumentException.class;
    private static final int LEAST = Integer.MIN_VALUE;
    private static final int MOST = Integer.MAX_VALUE;

    /**
     * POWERS are what is written while all are fresh. CHANCES of TEAM 0 by LINES 0, 1 against LINES 0, 1:
     * 90 130, 50 90; of TEAM 1 by LINES 0, 1 against LINES 0, 1: 100 60, 90 50; EDGES: -10 40, -10 40.
     */
    private static final String USUAL = "clock 10;extra 200;"
            + "team last 20;line 60 40 10 3 2;line 40 60 8 2 1;pair 30 50 6 2 2;"
            + "team 30;line 50 50 10 4 3;line 45 30 5 1 1;pair 20 40 4 1 1;";

    private static int wrong = 0;
    private static int asked = 0;

    private static void due(int promise, String what, long got, long want) {
        asked++;
        if (got != want) {
            wrong++;
            System.out.println("promise " + promise + ": " + what + " answered " + got + ", due is " + want);
        }
    }

    private static void refuses(int promise, String what, Class<? extends RuntimeException> due, Call call) {
        asked++;
        String got;
        try {
            got = "answered " + call.go();
        } catch (RuntimeException e) {
            if (e.getClass() == due) return;
            got = "threw " + e;
        }
        wrong++;
        System.out.println("promise " + promise + ": " + what + " " + got + ", due is " + due.getSimpleName());
    }

    /** Feeds a text (padded by blanks) and answers its length. */
    private static int feed(LastChange x, String text) {
        for (int at = 0; at < text.length(); at += 20) {
            int[] v = new int[5];
            for (int i = 0; i < 20; i++) {
                int sign = at + i < text.length() ? text.charAt(at + i) : ' ';
                v[i / 4] = v[i / 4] << 8 | sign;
            }
            x.feed(v[0], v[1], v[2], v[3], v[4]);
        }
        return text.length();
    }

    private static LastChange told(String text) {
        LastChange x = new LastChange();
        int found = x.game(feed(x, text));
        if (found != 0) throw new AssertionError("fault " + found + " at " + x.fault() + " of " + text);
        return x;
    }

    private static String said(LastChange x) {
        int n = x.say();
        StringBuilder b = new StringBuilder();
        for (int i = 0; i < n; i++) b.append((char) x.said(i));
        return b.toString();
    }

    private static void says(int promise, LastChange x, String want) {
        String got = said(x);
        asked++;
        if (!got.equals(want)) {
            wrong++;
            System.out.println("promise " + promise + ": all is " + got + ", due is " + want);
        }
    }

    private static void newObject() {
        LastChange x = new LastChange();
        says(1, x, "0l1*/0l1@0");
        for (int t = 0; t < 2; t++) {
            int[] unit = {0, 0, 1, 1, 1, 1, 0, 0};
            for (int w = 0; w < unit.length; w++) due(1, "unit(.., " + w + ")", x.unit(t, 0, w), unit[w]);
            int[] team = {1, 0, 0, 0, 0, 0, -1, 1, 1};
            for (int w = 0; w < team.length; w++) due(1, "team(.., " + w + ")", x.team(t, w), team[w]);
        }
        int[] count = {0, 0, 150, 0, 0, 1};
        for (int w = 0; w < count.length; w++) due(1, "count(" + w + ")", x.count(w), count[w]);
        due(1, "fault()", x.fault(), -1);
        due(1, "NONE", LastChange.NONE, -1);
        due(1, "HIDDEN", LastChange.HIDDEN, -1000000);
    }

    private static void feeding() {
        LastChange x = new LastChange();
        for (int i = 1; i <= 25; i++) due(2, "feed", x.feed(0, 0, 0, 0, 0), 20 * i);
        due(2, "feed to a full tape", x.feed(1, 2, 3, 4, 5), -1);
        due(2, "count(4)", x.count(4), 500);
        due(2, "game(500) of zeros", x.game(500), 1);
        due(2, "feed behind that", x.feed(0x636c6f63, 0x6b203100, 0, 0, 0), 20);
        due(2, "the highest byte comes first: clock 1 and a 0", x.game(20), 1);
        due(2, "its place", x.fault(), 7);
        x.feed(0x636c6f63, 0x6b20ff31, 0, 0, 0);
        due(2, "a byte above 127", x.game(20), 1);
        due(2, "its place", x.fault(), 6);
    }

    private static void fault(String text, int code, int place) {
        LastChange x = told(USUAL);
        x.set(0, 0, 7);
        String before = said(x);
        due(3, "game of \"" + text + "\"", x.game(feed(x, text)), code);
        due(4, "fault() of \"" + text + "\"", x.fault(), place);
        due(3, "the tape behind a fault", x.count(4), 0);
        due(3, "ACTS behind a fault", x.count(3), 1);
        says(3, x, before);
    }

    private static void telling() {
        LastChange x = told(USUAL);
        says(3, x, "0l10l8p6*/0l10l5p4@10");
        due(3, "EXTRA", x.count(2), 200);
        due(3, "the tape is empty", x.count(4), 0);
        due(4, "fault() of none", x.fault(), -1);
        int[][] units = {{60, 40, 10, 3, 2}, {40, 60, 8, 2, 1}, {30, 50, 6, 2, 2}};
        for (int u = 0; u < 3; u++) for (int w = 0; w < 5; w++) due(3, "unit(0, " + u + ", " + w + ")", x.unit(0, u, w), units[u][w]);
        due(3, "SAVE", x.team(0, 2), 20);
        due(3, "SAVE", x.team(1, 2), 30);
        x.set(0, 0, 3);
        x.set(1, 1, 3);
        x.see(1);
        x.turn(0, 2);
        x.set(1, 3, 1);
        x.set(0, 2, 1);
        due(3, "a second game", x.game(feed(x, "clock 99;team 0;line 0 0 1 1 1;team 99;line 99 99 15 7 7;pair 1 1 1 1 1;pair 1 1 2 1 1;")), 0);
        says(3, x, "0l1*/0l15p1p2@99");
        due(3, "EXTRA is as at first", x.count(2), 150);
        due(3, "ACTS are gone", x.count(3), 0);
        due(3, "undo() then", x.undo(), -1);
        feed(x, "clock 1;");
        refuses(3, "more than the tape has", ILLEGAL, () -> x.game(21));
        refuses(3, "below 0", ILLEGAL, () -> x.game(-1));
        refuses(3, "least", ILLEGAL, () -> x.game(LEAST));
        refuses(3, "most", ILLEGAL, () -> x.game(MOST));
        due(3, "the tape stays", x.count(4), 20);
        due(4, "fault() isn't touched by that", x.fault(), -1);
        due(3, "the first 8 alone", x.game(8), 4);
        due(4, "the text's length", x.fault(), 8);
        refuses(4, "an IllegalArgumentException", ILLEGAL, () -> x.game(1));
        due(4, "the FAULT ahead of it", x.fault(), 8);
        due(3, "no bytes", x.game(0), 1);
        due(4, "their end", x.fault(), 0);
        due(3, "again", x.game(feed(x, USUAL)), 0);
        due(4, "none any more", x.fault(), -1);
        due(3, "no blanks, many blanks, 0s ahead", x.game(feed(x, "clock0010;\n\n team last007;line1 2 3 4 5;team5  ;line\n1\n2 3 4 5\n;extra0;")), 0);
        due(3, "SAVE", x.team(0, 2), 7);
        due(3, "EXTRA", x.count(2), 0);
        due(3, "both last: the latter", x.game(feed(x, "clock 1;team last 1;line 1 1 1 1 1;team last 1;line 1 1 1 1 1;")), 0);
        due(3, "LAST", x.count(1), 1);
    }

    private static void faults() {
        String one = "clock 1;team 1;line 1 1 1 1 1;";
        fault("", 1, 0);
        fault("  \n ", 1, 4);
        fault("team 1;", 1, 0);
        fault("clocks 1;", 1, 0);
        fault("xlock 1;", 1, 0);
        fault("clock 1;teamz 1;", 1, 8);
        fault("Clock 1;", 1, 0);
        fault("clock", 1, 5);
        fault("clock ;", 1, 6);
        fault("clock 1  ", 1, 9);
        fault("clock 1 team", 1, 8);
        fault("clock 100;", 2, 6);
        fault("clock 99999999999999999999999999;", 2, 6);
        fault("clock -1;", 1, 6);
        fault("clock 1;;", 1, 8);
        fault("clock 1;5", 1, 8);
        fault("clock 1;last 5;", 1, 8);
        fault("clock 1;clock 5;", 1, 8);
        fault("clock 1;line 1 1 1 1 1;", 1, 8);
        fault("clock 1;pair 1 1 1 1 1;", 1, 8);
        fault("clock 1;\tteam", 1, 8);
        fault("clock 1;team;", 1, 12);
        fault("clock 1;team last last 5;", 1, 18);
        fault("clock 1;team 100;", 2, 13);
        fault("clock 1;team last 100;", 2, 18);
        fault("clock 1;team 5 5;", 1, 15);
        fault("clock 1;extra 301;", 2, 14);
        fault("clock 1;extra;", 1, 13);
        fault("clock 1;team 1;line 100 1 1 1 1;", 2, 20);
        fault("clock 1;team 1;line 1 100 1 1 1;", 2, 22);
        fault("clock 1;team 1;line 1 1 0 1 1;", 2, 24);
        fault("clock 1;team 1;line 1 1 16 1 1;", 2, 24);
        fault("clock 1;team 1;line 1 1 1 0 1;", 2, 26);
        fault("clock 1;team 1;line 1 1 1 8 1;", 2, 26);
        fault("clock 1;team 1;line 1 1 1 1 0;", 2, 28);
        fault("clock 1;team 1;line 1 1 1 1 8;", 2, 28);
        fault("clock 1;team 1;line 1 1 1 1;", 1, 27);
        fault("clock 1;team 1;line 1 1 1 1 1 1;", 1, 30);
        fault("clock 1;team 1;line 1 1 1 1 1", 1, 29);
        fault("clock 1;team 1;pair 1 1 1 1 1;line 1 1 1 1 1;", 3, 30);
        fault(one + "pair 1 1 1 1 1;pair 1 1 1 1 1;pair 1", 3, 60);
        fault(one + "line 1 1 1 1 1;line 1 1 1 1 1;line 1 1 1 1 1;line", 3, 75);
        fault(one + "team 1;team", 3, 37);
        fault(one + "team 1;line 1 1 1 1 1;team 1;", 3, 52);
        fault("clock 1;team 1;team 1;", 4, 15);
        fault("clock 1;team 1;pair 1 1 1 1 1;team 1;", 4, 30);
        fault("clock 1;  ", 4, 10);
        fault(one, 4, 30);
        fault(one + "team 1; ", 4, 38);
        fault(one + "team 1;pair 1 1 1 1 1;", 4, 52);
        fault(one + "team 1;lines", 1, 37);
        fault(one + "team 1;lin", 1, 37);
    }

    private static void counting() {
        LastChange x = told(USUAL);
        int[] count = {10, 0, 200, 0, 0, 4};
        for (int w = 0; w < count.length; w++) due(5, "count(" + w + ")", x.count(w), count[w]);
        x.set(0, 1, 1);
        due(5, "MEETINGS of a pair with two lines", x.count(5), 2);
        due(5, "ACTS", x.count(3), 1);
        x.set(1, 2, 0);
        due(5, "MEETINGS", x.count(5), 1);
        for (int w : new int[] {-1, 6, LEAST, MOST}) refuses(5, "count(" + w + ")", NO_SUCH, () -> x.count(w));
    }

    private static void teams() {
        LastChange x = told(USUAL);
        int[] team = {2, 1, 20, 0, 0, 0, -1, 3, 24};
        for (int w = 0; w < team.length; w++) due(6, "team(0, " + w + ")", x.team(0, w), team[w]);
        x.set(0, 1, 2);
        due(6, "SHORT: its pairs", x.team(0, 7), 4);
        x.set(0, 2, 1);
        due(6, "it STAYS: that alone", x.team(0, 7), 2);
        due(6, "it STAYS with", x.team(0, 6), 1);
        x.set(0, 3, 1);
        due(6, "PULLED", x.team(0, 5), 1);
        x.set(0, 0, 42);
        due(6, "GOALS", x.team(0, 3), 42);
        due(6, "the other one", x.team(1, 7), 3);
        LastChange y = told("clock 1;team 1;line 1 1 1 1 1;line 1 1 1 1 1;team 1;line 1 1 1 1 1;");
        y.set(0, 1, 1);
        due(6, "SHORT without pairs: its lines", y.team(0, 7), 3);
        refuses(6, "no such what", NO_SUCH, () -> x.team(0, 9));
        refuses(6, "no such what", NO_SUCH, () -> x.team(0, -1));
        refuses(6, "no such team", NO_SUCH, () -> x.team(2, 0));
        refuses(6, "no such team", NO_SUCH, () -> x.team(-1, 0));
    }

    private static void unitsAndChances() {
        LastChange x = told(USUAL);
        x.turn(0, 1);
        int[] unit = {60, 40, 10, 3, 2, 7, 42, 28};
        for (int w = 0; w < unit.length; w++) due(7, "unit(0, 0, " + w + ")", x.unit(0, 0, w), unit[w]);
        due(7, "POWER", x.unit(1, 1, 6), 36);
        due(7, "POWER", x.unit(1, 1, 7), 24);
        x.undo();
        LastChange cut = told("clock 9;team 0;line 99 10 7 1 1;team 0;line 0 0 1 1 1;");
        cut.turn(0, 0);
        due(7, "POWER is cut", cut.unit(0, 0, 6), 84);
        due(7, "POWER is cut", cut.unit(0, 0, 7), 8);
        refuses(7, "no such unit", NO_SUCH, () -> x.unit(0, 3, 0));
        refuses(7, "no such unit", NO_SUCH, () -> x.unit(0, -1, 0));
        refuses(7, "no such what", NO_SUCH, () -> x.unit(0, 0, 8));
        refuses(7, "no such what", NO_SUCH, () -> x.unit(0, 0, -1));
        refuses(7, "no such team", NO_SUCH, () -> x.unit(2, 0, 0));

        int[][] home = {{90, 130}, {50, 90}};
        int[][] away = {{100, 60}, {90, 50}};
        for (int a = 0; a < 2; a++) for (int b = 0; b < 2; b++) {
            due(8, "chance(0, " + a + ", " + b + ")", x.chance(0, a, b), home[a][b]);
            due(8, "chance(1, " + a + ", " + b + ")", x.chance(1, a, b), away[a][b]);
        }
        due(8, "a pair that may not be sent", x.chance(0, 2, 2), 50);
        x.set(1, 3, 1);
        due(8, "the other keeper PULLED: no SAVE", x.chance(0, 0, 0), 120);
        due(8, "the own keeper PULLED: EXTRA", x.chance(1, 0, 0), 300);
        x.set(0, 1, 1);
        due(8, "SHORT: by 2", x.chance(0, 0, 0), 60);
        due(8, "the other one SHORT: twice, 450 at most", x.chance(1, 0, 0), 450);
        x.set(1, 1, 1);
        due(8, "both SHORT", x.chance(0, 0, 0), 120);
        due(8, "both SHORT", x.chance(1, 0, 0), 300);
        LastChange weak = told("clock 1;team 99;line 0 99 1 1 1;team 99;line 1 99 1 1 1;extra 300;");
        due(8, "0 or more", weak.chance(0, 0, 0), 0);
        weak.set(0, 3, 1);
        due(8, "EXTRA comes ahead of 0 or more", weak.chance(0, 0, 0), 103);
        weak.set(0, 1, 1);
        due(8, "cut", weak.chance(0, 0, 0), 51);
        LastChange strong = told("clock 1;team 0;line 99 0 1 1 1;team 0;line 0 0 1 1 1;extra 300;");
        strong.set(0, 3, 1);
        due(8, "450 at most", strong.chance(0, 0, 0), 450);
        strong.set(0, 1, 1);
        due(8, "by 2 comes ahead of 450 at most", strong.chance(0, 0, 0), 299);
        refuses(8, "no such team", NO_SUCH, () -> x.chance(2, 0, 0));
        refuses(8, "no such team", NO_SUCH, () -> x.chance(-1, 0, 0));
        refuses(8, "no such unit", NO_SUCH, () -> x.chance(0, 3, 0));
        refuses(8, "no such unit", NO_SUCH, () -> x.chance(0, 0, 3));
        refuses(8, "no such unit", NO_SUCH, () -> x.chance(1, -1, 0));
        refuses(8, "no such unit", NO_SUCH, () -> x.chance(1, 0, MOST));
    }

    private static void orders() {
        LastChange x = told(USUAL);
        int[][] meetings = {{0, 1, 40}, {1, 1, 40}, {0, 0, -10}, {1, 0, -10}};
        for (int k = 0; k < 4; k++) for (int w = 0; w < 3; w++) due(9, "meeting(" + k + ", " + w + ")", x.meeting(k, w), meetings[k][w]);
        refuses(9, "no such meeting", NO_SUCH, () -> x.meeting(4, 0));
        refuses(9, "no such meeting", NO_SUCH, () -> x.meeting(-1, 0));
        refuses(9, "no such what", NO_SUCH, () -> x.meeting(0, 3));
        refuses(9, "no such what", NO_SUCH, () -> x.meeting(0, -1));
        x.set(0, 1, 1);
        due(9, "the pair alone", x.meeting(0, 0), 2);
        due(9, "the pair alone", x.meeting(1, 0), 2);
        refuses(9, "no such meeting", NO_SUCH, () -> x.meeting(2, 0));

        LastChange y = told("clock 9;team 0;line 10 0 5 1 1;line 20 0 5 1 1;line 20 0 7 1 1;line 10 0 5 1 1;pair 99 0 3 1 1;team 0;line 1 1 1 1 1;");
        int[] order = {2, 1, 0, 3, 4};
        for (int k = 0; k < 5; k++) due(10, "rested(0, " + k + ")", y.rested(0, k), order[k]);
        y.turn(1, 0);
        y.turn(2, 0);
        int[] tired = {2, 1, 0, 3, 4};
        for (int k = 0; k < 5; k++) due(10, "rested(0, " + k + ") then", y.rested(0, k), tired[k]);
        y.turn(1, 0);
        int[] more = {2, 0, 3, 1, 4};
        for (int k = 0; k < 5; k++) due(10, "rested(0, " + k + ") at last", y.rested(0, k), more[k]);
        refuses(10, "no such place", NO_SUCH, () -> y.rested(0, 5));
        refuses(10, "no such place", NO_SUCH, () -> y.rested(0, -1));
        refuses(10, "no such team", NO_SUCH, () -> y.rested(2, 0));
    }

    private static void values() {
        LastChange x = told(USUAL);
        due(11, "value(0)", x.value(0), 0);
        due(11, "value(1): TEAM 1 sends first", x.value(1), -10);
        due(12, "first(1)", x.first(1), 0);
        due(13, "reply(0, 1): the least of like ones", x.reply(0, 1), 0);
        due(13, "reply(1, 1)", x.reply(1, 1), 0);
        due(14, "by(0, 1, 1)", x.by(0, 1, 1), 40);
        x.see(1);
        due(11, "value(1): TEAM 0 sends first", x.value(1), -10);
        due(12, "first(1): the least of like ones", x.first(1), 0);
        due(13, "reply(1, 1)", x.reply(1, 1), 0);
        x.see(0);
        // Behind 0, 0: POWERS of TEAM 0: 42 28, 40 60; of TEAM 1: 30 30, 45 30. EDGES: by LINE 0:
        // 100+2*(42-30)-30 - (100+2*(30-28)-20) = 94-84 = 10; 94-(100+2*17-20) = -20; by LINE 1:
        // 90-20 = 70; 90-50 = 40. TEAM 1 sends 1 (40 against 70), TEAM 0 sends 1: 40.
        due(14, "by(0, 0, 2)", x.by(0, 0, 2), 30);
        refuses(11, "k 5", ILLEGAL, () -> x.value(5));
        refuses(11, "k -1", ILLEGAL, () -> x.value(-1));
        for (int k : new int[] {0, 5, -1, LEAST, MOST}) {
            refuses(12, "k " + k, ILLEGAL, () -> x.first(k));
            refuses(13, "k " + k, ILLEGAL, () -> x.reply(0, k));
            refuses(13, "k " + k + " behind no such unit", NO_SUCH, () -> x.reply(2, k));
            refuses(14, "k " + k, ILLEGAL, () -> x.by(0, 0, k));
            refuses(14, "k " + k + " behind no such unit", NO_SUCH, () -> x.by(0, 2, k));
            refuses(14, "k " + k + " behind no such unit", NO_SUCH, () -> x.by(2, 0, k));
            refuses(15, "k " + k + " ahead of no such turn", ILLEGAL, () -> x.best(k, -1, 3));
            refuses(16, "k " + k, ILLEGAL, () -> x.cost(0, 0, k));
            refuses(16, "k " + k + " behind no such team", NO_SUCH, () -> x.cost(2, 0, k));
            refuses(17, "k " + k, ILLEGAL, () -> x.seeing(k));
            refuses(18, "k " + k, ILLEGAL, () -> x.blind(k, 0));
            refuses(18, "k " + k + " behind no such what", NO_SUCH, () -> x.blind(k, 2));
        }
        refuses(13, "a pair", NO_SUCH, () -> x.reply(2, 1));
        refuses(13, "none", NO_SUCH, () -> x.reply(-1, 1));
        refuses(15, "no such turn", NO_SUCH, () -> x.best(2, 2, 0));
        refuses(15, "no such turn", NO_SUCH, () -> x.best(2, -1, 0));
        refuses(15, "no such what", NO_SUCH, () -> x.best(2, 0, 3));
        refuses(15, "no such what", NO_SUCH, () -> x.best(2, 0, -1));
        refuses(16, "n -1", ILLEGAL, () -> x.cost(0, -1, 1));
        refuses(16, "n 16", ILLEGAL, () -> x.cost(0, 16, 1));
        refuses(18, "what -1", NO_SUCH, () -> x.blind(1, -1));
    }

    /** Some TURNS ahead. */
    private static void lookingAhead() {
        // LEGS matter: LINE 0 of TEAM 0 is worth all, LINE 1 nothing, and one TURN takes all LEGS of it.
        // EDGES fresh: LINE 0: 200, LINE 1: 0; behind a TURN of it LINE 0: 0 till it has RESTED three TURNS.
        LastChange y = told("clock 0;team last 0;line 60 40 3 3 1;line 0 0 1 1 1;team 0;line 0 0 15 1 1;");
        due(11, "value(1)", y.value(1), 200);
        due(11, "value(2)", y.value(2), 200);
        due(14, "by(1, 0, 2)", y.by(1, 0, 2), 200);
        due(13, "reply(0, 2): the least of like ones", y.reply(0, 2), 0);
        due(13, "reply(0, 1)", y.reply(0, 1), 0);
        // by three: 0 at once, then LINE 0 with 1 of 3 LEGS: POWERS 20, 13: EDGE 140-74 = 66 and no more.
        due(11, "value(3)", y.value(3), 266);
        // by four: 200 at once, then three TURNS of rest: 132 with 2 LEGS.
        due(11, "value(4)", y.value(4), 332);
        due(15, "best(4, 3, 2)", y.best(4, 3, 2), 132);
        due(15, "best(4, 2, 0)", y.best(4, 2, 0), 1);
        due(15, "best(3, 0, 0)", y.best(3, 0, 0), 0);
        due(15, "best(3, 0, 1)", y.best(3, 0, 1), 0);
        due(15, "best(3, 0, 2)", y.best(3, 0, 2), 200);
        due(15, "best(3, 1, 0)", y.best(3, 1, 0), 1);
        due(15, "best(3, 1, 2)", y.best(3, 1, 2), 0);
        due(15, "best(3, 2, 0)", y.best(3, 2, 0), 0);
        due(15, "best(3, 2, 2)", y.best(3, 2, 2), 66);
        // SHORT: CHANCE of TEAM 0 by 2, of TEAM 1 twice: 220/2 - 2*20 = 70 in place of 200; one TURN alone.
        due(16, "cost(0, 1, 1)", y.cost(0, 1, 1), -130);
        // the other one SHORT: 440 - 10 = 430.
        due(16, "cost(1, 5, 1)", y.cost(1, 5, 1), 230);
        due(16, "cost(1, 15, 1)", y.cost(1, 15, 1), 230);
        due(16, "cost(0, 0, 4)", y.cost(0, 0, 4), 0);
        y.set(0, 1, 3);
        due(16, "SHORT no more", y.cost(0, 0, 1), 130);
        due(16, "SHORT as it is", y.cost(0, 3, 2), 0);
        says(16, y, "0l3l1+3*/0l15@0");
    }

    /** A CHANCE that is cut to 450 makes a cycle of EDGES: then it counts who sees. */
    private static void sight() {
        // CHANCES are 100 each, less what is kept to 0: LINES of TEAM 0: a (99, 0), b (49, 99); of TEAM 1:
        // c (60, 99), d (99, 49). CHANCE 0: a,c 100; a,d 200; b,c 0; b,d 100. CHANCE 1: c,a 220; c,b 22;
        // d,a 298; d,b 100. EDGES: a,c -120; a,d -98; b,c -22; b,d 0: no cycle, b and c in every case.
        LastChange y = told("clock 9;team 0;line 99 0 9 1 1;line 49 99 9 1 1;team 0;line 60 99 9 1 1;line 99 49 9 1 1;");
        due(18, "blind(1, 0)", y.blind(1, 0), -22);
        due(18, "blind(1, 1)", y.blind(1, 1), -22);
        due(17, "seeing(1)", y.seeing(1), 0);
        due(12, "first(1)", y.first(1), 0);
        due(13, "reply(0, 1)", y.reply(0, 1), 1);
        // TEAM 0's KEEPER is PULLED: CHANCE 0: a,c 450; a,d 438; b,c 450; b,d 360. CHANCE 1: c,a 140; c,b 100;
        // d,a 100; d,b 60. EDGES: a,c 310; a,d 338; b,c 350; b,d 300: TEAM 0 is sure of 310 (a), TEAM 1
        // holds it to 338 (d).
        LastChange w = told("clock 9;extra 300;team 0;line 99 0 9 1 1;line 60 20 9 1 1;team 0;line 20 0 9 1 1;line 0 80 9 1 1;");
        w.set(0, 3, 1);
        due(18, "blind(1, 0): a cycle", w.blind(1, 0), 310);
        due(18, "blind(1, 1): a cycle", w.blind(1, 1), 338);
        due(17, "seeing(1): a cycle", w.seeing(1), 28);
        due(11, "value(1): TEAM 0 sees", w.value(1), 338);
        due(12, "first(1): TEAM 1", w.first(1), 1);
        due(13, "reply(0, 1)", w.reply(0, 1), 1);
        due(13, "reply(1, 1)", w.reply(1, 1), 0);
        w.see(1);
        due(11, "value(1): TEAM 1 sees", w.value(1), 310);
        due(12, "first(1): TEAM 0", w.first(1), 0);
        due(13, "reply(0, 1)", w.reply(0, 1), 0);
        due(13, "reply(1, 1)", w.reply(1, 1), 1);
        due(17, "seeing(1) whoever is LAST", w.seeing(1), 28);
        due(24, "play by WAY 2", w.play(7, 1, 2, 2), 1);
        due(24, "TEAM 0 sent a", w.unit(0, 0, 5), 8);
        due(24, "TEAM 1 answered c", w.unit(1, 0, 5), 8);
        w.undo();
        w.see(0);
        w.play(7, 1, 2, 2);
        due(24, "TEAM 1 sent d", w.unit(1, 1, 5), 8);
        due(24, "TEAM 0 answered a", w.unit(0, 0, 5), 8);
    }

    private static void rotations() {
        LastChange x = told(USUAL);
        due(19, "one", x.rotation(1, 1, -1), 40);
        due(19, "one: the first of like ones", x.rotation(1, 1, 0), 0);
        // 0, 0 then 0: by LINE 0, LINE 1: -10 + EDGE of 1 against tired 0 (70) = 60; as by(0, 0, 2) shows.
        due(19, "two", x.rotation(0, 2, -1), 60);
        due(19, "two", x.rotation(0, 2, 0), 0);
        due(19, "two", x.rotation(0, 2, 1), 1);
        due(19, "0s ahead count", x.rotation(1, 2, -1) == -1000000 ? 0 : 1, 1);
        due(19, "a pair", x.rotation(2, 1, -1), -1000000);
        due(19, "more figures than n", x.rotation(10, 1, -1), -1000000);
        due(19, "none such, behind HIDDEN", x.rotation(2, 1, 5), -1000000);
        due(19, "many figures", x.rotation(MOST, 8, 0), -1000000);
        refuses(19, "i n", NO_SUCH, () -> x.rotation(0, 2, 2));
        refuses(19, "i -2", NO_SUCH, () -> x.rotation(0, 2, -2));
        refuses(19, "n 0", ILLEGAL, () -> x.rotation(0, 0, 9));
        refuses(19, "n 9", ILLEGAL, () -> x.rotation(2, 9, 9));
        refuses(19, "figures below 0", ILLEGAL, () -> x.rotation(-1, 1, 9));
        x.set(1, 1, 1);
        due(19, "SHORT: its pair first", x.rotation(0, 1, -1), -1000000);
        due(19, "SHORT for one TURN: a line behind it", x.rotation(20, 2, 0) == -1000000 ? 0 : 1, 1);
        due(19, "SHORT for one TURN", x.rotation(22, 2, 0), -1000000);
        x.set(1, 2, 1);
        due(19, "it STAYS with 1 first", x.rotation(10, 2, 0) == -1000000 ? 0 : 1, 1);
        due(19, "it STAYS with 1 first", x.rotation(0, 2, 0), -1000000);
        says(19, x, "0l10l8p6*/0l10l5.p4+1@10");
        LastChange y = told("clock 0;team last 0;line 60 40 3 3 1;line 0 0 1 1 1;team 0;line 0 0 15 1 1;");
        // EDGE of LINE 0: 200 with 3 LEGS, 132 with 2 (POWERS 40, 26: 180 - 48), 66 with 1. Eight TURNS: at 0, 4, 7
        // 200 + 200 + 132; at 0, 3, 7 200 + 132 + 200, and that row comes ahead.
        due(19, "eight", y.rotation(0, 8, -1), 532);
        int[] row = {0, 1, 1, 0, 1, 1, 1, 0};
        for (int i = 0; i < 8; i++) due(19, "eight, " + i, y.rotation(0, 8, i), row[i]);
    }

    private static void givens() {
        LastChange x = told(USUAL);
        due(20, "together", x.given(-1), 30);
        due(20, "of several the first along", x.given(0), 0);
        due(20, "of several the first along", x.given(1), 1);
        refuses(20, "a pair", NO_SUCH, () -> x.given(2));
        refuses(20, "-2", NO_SUCH, () -> x.given(-2));
        x.set(0, 1, 1);
        x.set(0, 2, 2);
        // SHORT: CHANCES of TEAM 0 by 2: 45 65, 25 45; of TEAM 1 twice: 200 120, 180 100.
        due(20, "who MAY be sent isn't asked, SHORT counts", x.given(-1), 45 - 200 + 45 - 100);
        LastChange y = told("clock 1;team 0;line 10 0 1 1 1;line 10 0 1 1 1;line 10 0 1 1 1;team 0;line 0 0 1 1 1;");
        due(20, "together", y.given(-1), 20);
        due(20, "the first one", y.given(0), 0);
        due(20, "none", y.given(1), -1);
        due(20, "none", y.given(2), -1);
        LastChange z = told("clock 1;team 0;line 10 0 1 1 1;team 0;line 0 0 1 1 1;line 0 9 1 1 1;line 9 0 1 1 1;line 0 0 1 1 1;");
        due(20, "the fewer are TEAM 0's", z.given(-1), 20);
        due(20, "the first one", z.given(0), 0);
        LastChange w = told("clock 1;team 99;line 0 0 1 1 1;line 0 0 1 1 1;team 0;line 90 0 1 1 1;");
        due(20, "as many as the fewer have, even at a loss", w.given(-1), 100 - 181);
    }

    private static void pulls() {
        LastChange x = new LastChange();
        due(21, "no TURN left", x.odds(0, 0, 0, 0), 500000);
        due(21, "no TURN left", x.odds(0, 0, 0, 1), 1000000);
        due(21, "no TURN left", x.odds(0, 0, 0, -1), 0);
        // PULLED: h 250, a 100; in: 100, 100.
        due(21, "one TURN", x.odds(0, 0, 1, 0), 575000);
        due(21, "one TURN", x.odds(0, 0, 1, -1), 125000);
        due(21, "one TURN", x.odds(0, 0, 1, 1), 950000);
        due(21, "two TURNS", x.odds(0, 0, 2, -1), 225000);
        due(21, "beyond 5 is 5", x.odds(0, 0, 1, 5), 1000000);
        due(21, "five below takes five", x.odds(0, 0, 4, -5), 0);
        // cut at each step: 125000, 31250, 7812, 1953, 488
        due(21, "cut", x.odds(0, 0, 5, -5), 488);
        due(21, "60 TURNS", x.odds(0, 0, 60, -5) > 488 ? 1 : 0, 1);
        due(22, "no difference by 5", x.when(0, 0, 5), -1);
        due(22, "always", x.when(0, 0, -1), 60);
        due(22, "five below", x.when(0, 0, -5), 60);
        refuses(21, "t 61", ILLEGAL, () -> x.odds(0, 0, 61, 0));
        refuses(21, "t -1", ILLEGAL, () -> x.odds(0, 0, -1, 0));
        refuses(21, "d 6", ILLEGAL, () -> x.odds(0, 0, 0, 6));
        refuses(21, "d -6", ILLEGAL, () -> x.odds(0, 0, 0, -6));
        refuses(21, "behind no such unit", NO_SUCH, () -> x.odds(1, 0, 61, 6));
        refuses(21, "behind no such unit", NO_SUCH, () -> x.odds(0, 1, 61, 6));
        refuses(22, "d 6", ILLEGAL, () -> x.when(0, 0, 6));
        refuses(22, "d least", ILLEGAL, () -> x.when(0, 0, LEAST));
        refuses(22, "behind no such unit", NO_SUCH, () -> x.when(-1, 0, 6));
        refuses(22, "behind no such unit", NO_SUCH, () -> x.when(0, MOST, 6));
        LastChange y = told("clock 1;extra 0;team 99;line 9 9 1 1 1;pair 1 1 1 1 1;team 50;line 9 9 1 1 1;");
        for (int d = -5; d <= 5; d++) due(22, "PULLED never helps", y.when(0, 0, d), -1);
        // SAVE 60, EXTRA 60: in: h 100, a 40; PULLED: h 160, a 100. With one TURN left: by -1 80000, in 50000;
        // by 0 both 530000; by 1 950000, in 980000.
        LastChange z = told("clock 1;extra 60;team 60;line 9 9 1 1 1;pair 1 1 1 1 1;team 0;line 9 9 1 1 1;");
        due(21, "PULLED by one below", z.odds(0, 0, 1, -1), 80000);
        due(21, "alike", z.odds(0, 0, 1, 0), 530000);
        due(21, "a lead is kept", z.odds(0, 0, 1, 1), 980000);
        // These three as the Oracle has them.
        due(22, "one below", z.when(0, 0, -1), 20);
        due(22, "two below", z.when(0, 0, -2), 40);
        due(22, "three below", z.when(0, 0, -3), 60);
        due(22, "alike by 0", z.when(0, 0, 0), -1);
        due(22, "PULLED doesn't help a lead of 5", z.when(0, 0, 5), -1);
        z.set(0, 3, 1);
        due(21, "its own KEEPER isn't asked", z.odds(0, 0, 1, 1), 980000);
        due(21, "and stays", z.team(0, 5), 1);
        z.set(1, 3, 1);
        // TEAM 1's KEEPER PULLED: it has EXTRA, too: a 100 in, 160 PULLED.
        due(21, "TEAM 1's KEEPER as it is", z.odds(0, 0, 1, 1), 950000);
        z.set(1, 3, 0);
        z.set(0, 1, 1);
        // SHORT: in: h 50, a 80; PULLED: 80, 200.
        due(21, "SHORT as it is", z.odds(0, 0, 1, 1), 960000);
        due(21, "a pair is a unit, too", z.odds(1, 0, 0, 1), 1000000);
    }

    private static void turns() {
        LastChange x = told(USUAL);
        due(23, "turn(0, 1)", x.turn(0, 1), 40);
        says(23, x, "0l7l8p6*/0l10l4p4@9");
        due(23, "an ACT", x.count(3), 1);
        due(23, "a pair", x.turn(2, 0), -1000000);
        due(23, "a pair", x.turn(0, 2), -1000000);
        due(23, "none", x.turn(-1, 0), -1000000);
        due(23, "none", x.turn(0, MOST), -1000000);
        due(23, "no ACT", x.count(3), 1);
        x.set(0, 1, 1);
        x.set(1, 2, 1);
        due(23, "it STAYS with 1", x.turn(2, 0), -1000000);
        x.turn(2, 1);
        says(23, x, "0l9l8p4*/0l10l3p4@8");
        x.turn(0, 0);
        x.turn(0, 0);
        x.turn(0, 0);
        says(23, x, "0l0l8p6*/0l0l5p4@5");
        x.turn(0, 0);
        says(23, x, "0l0l8p6*/0l0l5p4@4");
        for (int i = 0; i < 4; i++) x.turn(1, 1);
        says(23, x, "0l8l0p6*/0l10l1p4@0");
        due(23, "CLOCK is 0", x.turn(0, 0), -1000000);
        due(23, "value() doesn't ask the CLOCK", x.value(1) == 0 ? 0 : 1, 1);
    }

    private static void plays() {
        LastChange x = told(USUAL);
        // seed 0: DRAW 0, a GOAL for TEAM 0.
        due(24, "play", x.play(0, 1, 0, 0), 1);
        says(24, x, "1l7l8p6*/0l6l5p4@9");
        due(24, "an ACT", x.count(3), 1);
        due(24, "as many as CLOCK", x.play(5, 99, 1, 1), 9);
        due(24, "CLOCK", x.count(0), 0);
        due(24, "none", x.play(5, 99, 1, 1), 0);
        due(24, "ACTS", x.count(3), 3);
        due(24, "n 0", x.play(5, 0, 3, 3), 0);
        due(24, "ACTS", x.count(3), 4);
        refuses(24, "n -1", ILLEGAL, () -> x.play(0, -1, 0, 0));
        refuses(24, "n 100", ILLEGAL, () -> x.play(0, 100, 0, 0));
        refuses(24, "way 4", ILLEGAL, () -> x.play(0, 1, 4, 0));
        refuses(24, "way -1", ILLEGAL, () -> x.play(0, 1, -1, 0));
        refuses(24, "other 4", ILLEGAL, () -> x.play(0, 1, 0, 4));
        refuses(24, "other -1", ILLEGAL, () -> x.play(0, 1, 0, -1));
        due(24, "no ACT", x.count(3), 4);
        LastChange y = told(USUAL);
        y.set(1, 1, 5);
        y.play(0, 1, 0, 0);
        due(24, "a GOAL ends SHORT of the other one", y.team(1, 4), 0);
        y.undo();
        y.set(0, 1, 5);
        y.play(0, 1, 0, 0);
        due(24, "not its own", y.team(0, 4), 4);
        y.set(0, 0, 99);
        y.set(1, 1, 5);
        y.play(0, 1, 0, 0);
        due(24, "GOALS are 99 at most", y.team(0, 3), 99);
        due(24, "and it ends SHORT still", y.team(1, 4), 0);
        ways();
        draws();
    }

    private static void ways() {
        String three = "line 9 9 3 1 1;line 9 9 3 1 1;line 9 9 3 1 1;pair 5 5 3 1 1;pair 5 5 3 1 1;";
        LastChange x = told("clock 9;team 0;" + three + "team 0;" + three);
        x.set(0, 1, 2);
        x.play(-1, 3, 1, 1);
        // WAY 1: TEAM 0 SHORT for two TURNS (unless a GOAL ends that): pairs 3, 4, then lines again from the first one.
        due(24, "WAY 1 of TEAM 0", x.unit(0, 0, 5), 2);
        due(24, "WAY 1 of TEAM 0", x.unit(0, 1, 5), 3);
        due(24, "WAY 1 of TEAM 0: pairs rest", x.unit(0, 4, 5), 3);
        due(24, "WAY 1 of TEAM 1: 0, 1, 2", x.unit(1, 2, 5), 2);
        due(24, "WAY 1 of TEAM 1: 0, 1, 2", x.unit(1, 0, 5), 3);
        x.play(-1, 1, 1, 1);
        due(24, "at first the first one again", x.unit(1, 0, 5), 2);
        // WAY 0: the greatest LEGS, of several the least: 0, 1, 2, ..
        LastChange y = told("clock 9;team 0;line 0 99 9 5 1;line 0 99 8 5 1;line 0 99 9 5 1;team 0;line 0 99 1 1 1;");
        y.play(3, 1, 0, 0);
        says(24, y, "0l4l8l9*/0l0@8");
        y.play(3, 1, 0, 0);
        says(24, y, "0l5l8l4*/0l0@7");
        // WAY 3: LINE 0 with 2 of 4 LEGS has an EDGE of 80, LINE 1 of 78; by two TURNS LINE 1 and then LINE 0,
        // RESTED, are 78 + 160, LINE 0 and then LINE 1 80 + 78.
        String look = "team 0;line 80 0 4 2 2;line 39 0 9 1 1;team 0;line 0 0 9 1 1;";
        for (int clock = 2; clock <= 3; clock++) {
            for (int last = 0; last < 2; last++) {
                LastChange z = told("clock " + clock + ";" + look);
                z.turn(0, 0);
                z.see(last);
                z.play(3, 1, 3, 3);
                due(24, "WAY 3 by CLOCK " + (clock - 1), z.unit(0, 0, 5), clock == 2 ? 0 : 4);
                z.undo();
                z.play(3, 1, 2, 3);
                due(24, "WAY 2 by CLOCK " + (clock - 1), z.unit(0, 0, 5), 0);
                z.undo();
                z.play(3, 1, 0, 3);
                due(24, "WAY 0 by CLOCK " + (clock - 1), z.unit(0, 0, 5), 4);
            }
        }
    }

    /** CHANCES are 100 each all along: GOALS are counted by the DRAWS alone. */
    private static void draws() {
        LastChange x = told("clock 99;team 0;line 0 0 1 1 1;team 0;line 0 0 1 1 1;");
        int seed = 1, home = 0, away = 0;
        int at = seed;
        for (int i = 0; i < 50; i++) {
            at = at * 1103515245 + 12345;
            int draw = ((at >>> 16) & 0x7fff) % 1000;
            if (draw < 100) home++;
            else if (draw < 200) away++;
        }
        x.play(seed, 50, 0, 0);
        due(24, "GOALS by DRAWS", x.team(0, 3), home);
        due(24, "GOALS by DRAWS", x.team(1, 3), away);
        x.undo();
        due(25, "one GAME is like play", x.games(seed, 1, 50, 0, 0, 2), home);
        due(25, "one GAME is like play", x.games(seed, 1, 50, 0, 0, 3), away);
    }

    private static void manyGames() {
        LastChange x = told(USUAL);
        x.set(0, 0, 2);
        x.set(1, 0, 1);
        String before = said(x);
        int[] sum = new int[4];
        for (int i = 0; i < 20; i++) {
            x.play(MOST - 5 + i, 10, 3, 2);
            int home = x.team(0, 3), away = x.team(1, 3);
            if (home > away) sum[0]++;
            if (home == away) sum[1]++;
            sum[2] += home;
            sum[3] += away;
            x.undo();
        }
        for (int w = 0; w < 4; w++) due(25, "games(.., " + w + ")", x.games(MOST - 5, 20, 10, 3, 2, w), sum[w]);
        due(25, "no TURN: TEAM 0 leads", x.games(1, 20, 0, 0, 0, 0), 20);
        due(25, "no TURN: GOALS", x.games(1, 20, 0, 0, 0, 2), 40);
        says(25, x, before);
        due(25, "no ACT", x.count(3), 2);
        refuses(25, "what 4", NO_SUCH, () -> x.games(1, 1, 1, 0, 0, 4));
        refuses(25, "what -1", NO_SUCH, () -> x.games(1, 1, 1, 0, 0, -1));
        refuses(25, "what ahead of all", NO_SUCH, () -> x.games(1, 0, -1, 9, 9, 4));
        refuses(25, "m 0", ILLEGAL, () -> x.games(1, 0, 1, 0, 0, 0));
        refuses(25, "m 21", ILLEGAL, () -> x.games(1, 21, 1, 0, 0, 0));
        refuses(25, "n -1", ILLEGAL, () -> x.games(1, 1, -1, 0, 0, 0));
        refuses(25, "n 100", ILLEGAL, () -> x.games(1, 1, 100, 0, 0, 0));
        refuses(25, "way 4", ILLEGAL, () -> x.games(1, 1, 1, 4, 0, 0));
        refuses(25, "other -1", ILLEGAL, () -> x.games(1, 1, 1, 0, -1, 0));
    }

    private static void setting() {
        LastChange x = told(USUAL);
        int[][] good = {{0, 99, 0}, {0, 15, 0}, {-1, 2, -1}, {0, 1, 0}};
        int[][] bad = {{-1, 100}, {-1, 16}, {-2, 3}, {-1, 2}};
        for (int w = 0; w < 4; w++) {
            int what = w;
            int was = good[w][0];
            for (int v : good[w]) {
                due(26, "set(1, " + w + ", " + v + ")", x.set(1, w, v), was);
                due(26, "then", x.team(1, new int[] {3, 4, 6, 5}[w]), v);
                was = v;
            }
            for (int v : bad[w]) refuses(26, "set(1, " + w + ", " + v + ")", ILLEGAL, () -> x.set(1, what, v));
        }
        due(26, "ACTS, also where nothing changes", x.count(3), 12);
        refuses(26, "no such team ahead of v", NO_SUCH, () -> x.set(2, 0, 100));
        refuses(26, "no such what ahead of v", NO_SUCH, () -> x.set(0, 4, 100));
        refuses(26, "no such what", NO_SUCH, () -> x.set(0, -1, 0));
        due(26, "no ACT", x.count(3), 12);
        due(27, "see(1)", x.see(1), 0);
        due(27, "see(1)", x.see(1), 1);
        due(27, "LAST", x.count(1), 1);
        due(27, "see(0)", x.see(0), 1);
        due(27, "ACTS", x.count(3), 15);
        refuses(27, "see(2)", NO_SUCH, () -> x.see(2));
        refuses(27, "see(-1)", NO_SUCH, () -> x.see(-1));
        due(27, "ACTS", x.count(3), 15);
    }

    private static void lasting() {
        LastChange x = told(USUAL);
        due(28, "10 by 3", x.lasts(0, 0, false), 4);
        due(28, "8 by 2", x.lasts(0, 1, false), 4);
        due(28, "it is so now", x.lasts(0, 0, true), 0);
        for (int i = 0; i < 4; i++) x.turn(0, 0);
        due(28, "it is so now", x.lasts(0, 0, false), 0);
        due(28, "10 by 2", x.lasts(0, 0, true), 5);
        due(28, "10 by 3", x.lasts(1, 0, true), 4);
        due(28, "a pair", x.lasts(1, 2, false), 4);
        refuses(28, "no such unit", NO_SUCH, () -> x.lasts(0, 3, true));
        refuses(28, "no such unit", NO_SUCH, () -> x.lasts(0, -1, false));
        refuses(28, "no such team", NO_SUCH, () -> x.lasts(2, 0, true));
    }

    private static void saying() {
        LastChange x = told(USUAL);
        due(30, "nothing was SAID", x.said(0), -1);
        x.set(0, 0, 12);
        x.set(0, 2, 2);
        x.set(0, 1, 15);
        x.set(1, 1, 3);
        x.set(1, 2, 0);
        x.set(1, 3, 1);
        x.set(0, 3, 1);
        String all = "12l10l8p6.+15^*/0l10.l5p4+3^@10";
        due(29, "say()", x.say(), all.length());
        says(29, x, all);
        x.undo();
        x.image();
        x.game(feed(x, USUAL));
        x.back();
        for (int i = 0; i < all.length(); i++) due(30, "said(" + i + ")", x.said(i), all.charAt(i));
        for (int i : new int[] {-1, all.length(), LEAST, MOST}) due(30, "said(" + i + ")", x.said(i), -1);
        x.see(1);
        says(29, x, "12l10l8p6.+15/0l10.l5p4+3^*@10");
        x.game(feed(x, "clock 0;team 1;line 1 1 1 1 1;team 1;line 1 1 1 1 1;"));
        due(29, "a shorter one", x.say(), 10);
        due(30, "behind it", x.said(10), -1);
    }

    private static void undoing() {
        LastChange x = told(USUAL);
        due(31, "none", x.undo(), -1);
        String[] states = new String[20];
        for (int i = 0; i < 20; i++) {
            states[i] = said(x);
            switch (i % 7) {
                case 0: x.turn(Integer.numberOfTrailingZeros(x.team(0, 7)), Integer.numberOfTrailingZeros(x.team(1, 7))); break;
                case 1: x.play(i, 1, 2, 3); break;
                case 2: x.set(0, 0, i); break;
                case 3: x.set(1, 1, i % 15); break;
                case 4: x.set(0, 2, i % 3); break;
                case 5: x.set(1, 3, 1 - x.team(1, 5)); break;
                default: x.see(1 - x.count(1)); break;
            }
            due(31, "ACTS that are kept", x.count(3), Math.min(16, i + 1));
        }
        due(31, "16 at most", x.count(3), 16);
        for (int i = 19; i >= 4; i--) {
            due(31, "undo()", x.undo(), i - 4);
            says(31, x, states[i]);
        }
        due(31, "none is left", x.undo(), -1);
        says(31, x, states[4]);
        x.set(0, 0, 5);
        due(31, "one more", x.undo(), 0);
        says(31, x, states[4]);
    }

    private static void images() {
        LastChange x = told(USUAL);
        due(33, "nothing was kept", x.back() ? 1 : 0, 0);
        x.set(0, 0, 5);
        due(33, "nothing changes", x.back() ? 1 : 0, 0);
        due(33, "ACTS stay", x.count(3), 1);
        x.set(1, 2, 1);
        x.set(0, 1, 3);
        x.set(1, 3, 1);
        x.see(1);
        x.image();
        String then = said(x);
        due(32, "ACTS stay", x.count(3), 5);
        x.game(feed(x, "clock 7;extra 9;team 1;line 1 2 3 4 5;team 2;line 5 4 3 2 1;line 1 1 1 1 1;line 1 1 1 1 1;line 1 1 1 1 1;"));
        x.turn(0, 0);
        feed(x, "clock 100;");
        x.game(10);
        feed(x, "clock");
        due(33, "back()", x.back() ? 1 : 0, 1);
        says(33, x, then);
        due(33, "ACTS are gone", x.count(3), 0);
        due(33, "EXTRA", x.count(2), 200);
        due(33, "SAVE", x.team(0, 2), 20);
        due(33, "units", x.unit(0, 1, 1), 60);
        due(33, "units", x.unit(1, 1, 0), 45);
        due(33, "lines", x.team(1, 0), 2);
        due(33, "the tape stays", x.count(4), 20);
        due(33, "fault() stays", x.fault(), 6);
        x.set(0, 0, 50);
        due(33, "again", x.back() ? 1 : 0, 1);
        says(33, x, then);
        x.set(0, 0, 60);
        x.image();
        x.undo();
        due(32, "undo() doesn't touch it", x.back() ? 1 : 0, 1);
        due(32, "in place of what was", x.team(0, 3), 60);
    }

    public static void main(String[] args) {
        newObject();
        feeding();
        telling();
        faults();
        counting();
        teams();
        unitsAndChances();
        orders();
        values();
        lookingAhead();
        sight();
        rotations();
        givens();
        pulls();
        turns();
        plays();
        manyGames();
        setting();
        lasting();
        saying();
        undoing();
        images();
        System.out.println("PromiseTest: " + asked + " asked, " + wrong + " wrong");
        if (wrong > 0) System.exit(1);
    }
}
