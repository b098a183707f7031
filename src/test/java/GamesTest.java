import java.io.IOException;

/** The document's 'Terms' from ==== 3 on, sentence by sentence: PULL, GAMES by DRAWS and WAYS, ACTS, the constants. */
public final class GamesTest extends Sentences {
    /** A UNIT that neither makes a GOAL nor lets one in, against its like. */
    private static final String WALL = "line 0 99 9 1 1;";
    private static final String PAIR_WALL = "pair 0 99 9 1 1;";
    /** Its first DRAWS are 908, 817: above what CHANCES here come to. */
    private static final int NO_GOAL = 2;

    private static LastChange even(String numbers) {
        return told("clock 0;extra 0;" + numbers);
    }

    private static void odds() {
        about("==== 3. PULL for TEAM 0, by UNITS x, y as they are (SHORT as it is, too; nothing tires):");
        LastChange x = even("team 0;" + L + "pair 50 0 1 1 1;team 0;" + L + "pair 50 0 1 1 1;");
        due("a PAIR that MAY not be sent", x.odds(1, 0, 1, 0), 550000);
        due("one of TEAM 1", x.odds(0, 1, 1, 0), 450000);
        // h 200, a 100 in both TURNS: by 1 950000, by 0 550000, by -1 100000.
        due("nothing tires", x.odds(1, 0, 2, 0), 585000);
        due("LEGS stay", x.unit(0, 1, 5), 1);
        x.set(0, 1, 1);
        // h 50, a 200 in both TURNS: by 1 900000, by 0 425000, by -1 25000.
        due("TEAM 0 SHORT, one TURN", x.odds(0, 0, 1, 0), 425000);
        due("TEAM 0 SHORT, two TURNS", x.odds(0, 0, 2, 0), 368750);
        due("SHORT stays", x.team(0, 4), 1);
        x.set(0, 1, 0);
        x.set(1, 1, 1);
        // h 200, a 50 in both TURNS: by 1 975000, by 0 575000, by -1 100000.
        due("TEAM 1 SHORT, one TURN", x.odds(0, 0, 1, 0), 575000);
        due("TEAM 1 SHORT, two TURNS", x.odds(0, 0, 2, 0), 631250);
        LastChange tired = told("clock 1;extra 0;team 0;line 50 0 1 1 1;team 0;" + L);
        due("fresh", tired.odds(0, 0, 1, 0), 550000);
        tired.turn(0, 0);
        due("as they are: tired", tired.odds(0, 0, 1, 0), 500000);

        about("ODDS (t, d) with t TURNS left (0 to 60) and a lead d (-5 to 5; what is beyond is 5, -5), in millionths:");
        LastChange y = even("team 0;" + L + "team 0;" + L);
        // h, a 100: the rows were counted apart from any Java.
        int[] above = {1000000, 1000000, 1000000, 1000000, 1000000, 999995, 999974, 999923, 999825};
        int[] below = {0, 0, 0, 0, 0, 5, 25, 75, 172};
        for (int t = 0; t <= 8; t++) {
            due("odds by a lead of 5, t " + t, y.odds(0, 0, t, 5), above[t]);
            due("odds by a lead of -5, t " + t, y.odds(0, 0, t, -5), below[t]);
        }
        due("t 60", y.odds(0, 0, 60, 5), 881655);
        due("t 60", y.odds(0, 0, 60, -5), 118297);
        for (int t : new int[] {-1, 61}) throwsIt(y, "t " + t, ILLEGAL, z -> z.odds(0, 0, t, 0));
        for (int d : new int[] {-6, 6}) throwsIt(y, "d " + d, ILLEGAL, z -> z.odds(0, 0, 0, d));

        about("of t 0: 1000000 of a lead above 0, 500000 of 0, 0 below;");
        for (int d = -5; d <= 5; d++) due("odds by t 0, d " + d, y.odds(0, 0, 0, d), d > 0 ? 1000000 : d == 0 ? 500000 : 0);

        about("else the greater one of what comes by its KEEPER in, or PULLED:");
        // in: h 100, a 40; PULLED: h 160, a 100.
        LastChange z = told("clock 1;extra 60;team 60;" + L + "team 0;" + L);
        for (int pulled = 0; pulled < 2; pulled++) {
            z.set(0, 3, pulled);
            due("PULLED is more", z.odds(0, 0, 1, -1), 80000);
            due("both alike", z.odds(0, 0, 1, 0), 530000);
            due("in is more", z.odds(0, 0, 1, 1), 980000);
            due("the KEEPER stays as it is", z.team(0, 5), pulled);
        }

        about("with h, a CHANCES of both by that, h times ODDS (t - 1, d + 1), a times ODDS (t - 1, d - 1) and 1000 - h - a times ODDS (t - 1, d), together, by 1000 (cut).");
        LastChange w = new LastChange();
        // PULLED: h 250; from -t up to 0 by t GOALS, half of what is due then: 125000, and a fourth of it each time.
        int[] up = {500000, 125000, 31250, 7812, 1953, 488};
        for (int t = 0; t <= 5; t++) due("odds by t GOALS, t " + t, w.odds(0, 0, t, -t), up[t]);
        LastChange most = told("clock 1;extra 300;team 0;line 99 0 1 1 1;team 0;line 99 0 1 1 1;");
        most.set(1, 3, 1);
        // in: h 298, a 450; PULLED: h 450, a 450: 450 * 1 + 100 / 2 against 298 + 252 / 2.
        due("CHANCES of 450 each", most.odds(0, 0, 1, 0), 500000);
        due("no TURN goes by without a GOAL but one of ten", most.odds(0, 0, 1, 1), 298000 + 225000 + 252000);

        about("(TEAM 1's KEEPER as it is.)");
        LastChange away = even("team 0;" + L + "team 50;" + L);
        due("in: its SAVE counts", away.odds(0, 0, 1, 0), 475000);
        away.set(1, 3, 1);
        due("PULLED: it doesn't", away.odds(0, 0, 1, 0), 500000);
        z.set(1, 3, 1);
        due("PULLED: EXTRA for TEAM 1", z.odds(0, 0, 1, 1), 950000);

        about("WHEN of a lead: the greatest t, 1 to 60, by which PULLED is more than in; none.");
        for (int d = -5; d <= 5; d++) due("PULLED is never more, d " + d, y.when(0, 0, d), NONE);
        for (int d = -5; d <= 4; d++) due("PULLED is more to the end, d " + d, w.when(0, 0, d), 60);
        due("no lead is beyond 5", w.when(0, 0, 5), NONE);
        // in: h 100, a 50; PULLED: h 105, a 100: the rows were counted apart from any Java.
        LastChange few = told("clock 1;extra 5;team 50;" + L + "team 0;" + L);
        int[] when = {60, 7, 5, 3, 1, NONE, NONE, NONE, NONE, NONE, NONE};
        for (int d = -5; d <= 5; d++) due("when by d " + d, few.when(0, 0, d), when[d + 5]);
    }

    private static void lengths() {
        about("A GAME by a seed goes on for n TURNS (as many as CLOCK at most):");
        LastChange x = told("clock 5;team 0;" + WALL + "team 0;" + WALL);
        int[][] played = {{0, 0, 5}, {3, 3, 2}, {3, 2, 0}, {3, 0, 0}, {99, 0, 0}};
        for (int[] p : played) {
            due("play by n " + p[0], x.play(1, p[0], 0, 0), p[1]);
            due("CLOCK then", x.count(0), p[2]);
        }
        LastChange y = told("clock 99;team 0;" + WALL + "team 0;" + WALL);
        due("99 TURNS", y.play(1, 99, 1, 1), 99);
        y.undo();
        due("98 TURNS", y.play(1, 98, 1, 1), 98);
        due("CLOCK", y.count(0), 1);
        due("one more", y.play(1, 2, 1, 1), 1);
    }

    /** Which UNIT of a TEAM was sent in the n-th TURN of a GAME (all RESTS here are 1, all are fresh at first). */
    private static int sent(LastChange x, int team, int n, int way, int other) {
        x.play(NO_GOAL, n - 1, way, other);
        int units = x.team(team, 0) + x.team(team, 1);
        int[] before = new int[units];
        for (int u = 0; u < units; u++) before[u] = x.unit(team, u, 5);
        x.undo();
        x.play(NO_GOAL, n, way, other);
        int found = NONE;
        for (int u = 0; u < units; u++) if (x.unit(team, u, 5) < before[u]) found = u;
        x.undo();
        return found;
    }

    private static void sends(String what, LastChange x, int team, int way, int... units) {
        for (int n = 1; n <= units.length; n++) {
            due(what + ": TURN " + n, sent(x, team, n, team == 0 ? way : 0, team == 0 ? 0 : way), units[n - 1]);
        }
    }

    private static LastChange walls(int team, String own) {
        return told(team == 0 ? game(own, WALL) : game(WALL, own));
    }

    private static void rounds(String what, int team, int last, int shortFor, int stays, int... units) {
        LastChange x = walls(team, WALL.repeat(4) + PAIR_WALL.repeat(2));
        x.see(last);
        x.set(team, 1, shortFor);
        x.set(team, 2, stays);
        sends(what, x, team, 1, units);
    }

    private static void firstWays() {
        about("WAYS of TEAMS: 0 the UNIT that MAY be sent with the greatest LEGS;");
        for (int t = 0; t < 2; t++) for (int last = 0; last < 2; last++) {
            LastChange x = walls(t, "line 0 99 9 5 1;line 0 99 8 5 1;line 0 99 9 5 1;pair 0 99 15 1 1;");
            x.see(last);
            // 9 8 9, 4 8 9, 5 8 4, 6 3 5, 1 4 6: LINE 0, 2, 1, 0, 2
            sends("by LEGS", x, t, 0, 0, 2, 1, 0, 2);
            x.set(t, 2, 1);
            sends("it STAYS", x, t, 0, 1, 0);
            x.set(t, 2, NONE);
            x.set(t, 1, 1);
            sends("SHORT", x, t, 0, 3, 0);
        }

        about("1 the one behind the latest it sent in this GAME of those it MAY send, by numbers, round (at first the first one);");
        for (int t = 0; t < 2; t++) for (int last = 0; last < 2; last++) {
            rounds("round", t, last, 0, NONE, 0, 1, 2, 3, 0, 1);
            rounds("SHORT for three", t, last, 3, NONE, 4, 5, 4, 0, 1);
            rounds("SHORT for two", t, last, 2, NONE, 4, 5, 0, 1);
            rounds("it STAYS, then SHORT", t, last, 2, 3, 3, 4, 0, 1);
            rounds("it STAYS with 3", t, last, 0, 3, 3, 0, 1);
            rounds("it STAYS with 2", t, last, 0, 2, 2, 3, 0);
            rounds("it STAYS with a PAIR", t, last, 0, 5, 5, 0, 1);
        }
        LastChange one = walls(0, WALL + PAIR_WALL);
        sends("one alone", one, 0, 1, 0, 0, 0);
        LastChange both = told(game(WALL.repeat(4), WALL.repeat(3)));
        for (int n = 1; n <= 6; n++) {
            due("TEAM 0 of both, TURN " + n, sent(both, 0, n, 1, 1), (n - 1) % 4);
            due("TEAM 1 of both, TURN " + n, sent(both, 1, n, 1, 1), (n - 1) % 3);
        }
        both.play(NO_GOAL, 2, 1, 1);
        both.play(NO_GOAL, 1, 1, 1);
        due("a new GAME by a seed: the first one again", both.unit(0, 0, 5), 8);
        due("a new GAME by a seed: the first one again", both.unit(1, 0, 5), 8);
    }

    private static LastChange cycle(int last) {
        // EDGES of LINES a, b with LINES c, d: a,c 310; a,d 338; b,c 350; b,d 300.
        LastChange x = told("clock 9;extra 300;team 0;line 99 0 9 1 1;line 60 20 9 1 1;team 0;line 20 0 9 1 1;line 0 80 9 1 1;");
        x.set(0, 3, 1);
        x.see(last);
        return x;
    }

    private static void meets(String what, LastChange x, int way, int other, int home, int away) {
        due(what + ": TEAM 0 sends", sent(x, 0, 1, way, other), home);
        due(what + ": TEAM 1 sends", sent(x, 1, 1, way, other), away);
    }

    private static void otherWays() {
        about("2 by the greatest EDGE for it: who sees, against what it sees, the other one against that which then does worst for it;");
        meets("TEAM 0 sees", cycle(0), 2, 2, 0, 1);
        meets("TEAM 1 sees", cycle(1), 2, 2, 0, 0);
        meets("TEAM 0 sees c", cycle(0), 2, 1, 1, 0);
        LastChange d = cycle(0);
        d.set(1, 2, 1);
        meets("TEAM 0 sees d", d, 2, 1, 0, 1);
        meets("TEAM 1 sees a", cycle(1), 1, 2, 0, 0);
        LastChange b = cycle(1);
        b.set(0, 2, 1);
        meets("TEAM 1 sees b", b, 1, 2, 1, 1);
        LastChange c = cycle(1);
        c.set(1, 2, 0);
        meets("TEAM 0 sends first, c alone MAY come", c, 2, 0, 1, 0);
        LastChange a = cycle(0);
        a.set(0, 2, 1);
        meets("TEAM 1 sends first, b alone MAY come", a, 0, 2, 1, 1);

        for (int t = 0; t < 2; t++) for (int last = 0; last < 2; last++) {
            // By two TURNS LINE 1 would come first; by the EDGE of this one LINE 0 does: 80 against 78.
            String tires = "line 80 0 4 2 2;line 39 0 9 1 1;", still = "line 0 0 9 1 1;";
            LastChange y = told(t == 0 ? game(tires, still) : game(still, tires));
            y.see(last);
            y.turn(0, 0);
            y.play(NO_GOAL, 1, 2, 2);
            due("TEAM " + t + " looks no further: LEGS of LINE 0", y.unit(t, 0, 5), 0);
        }

        about("3 FIRST, REPLY by k 2 (1 by CLOCK 1);");
        for (int t = 0; t < 2; t++) for (int last = 0; last < 2; last++) {
            // LINE 0 has a POWER with all 3 LEGS alone: with 1 it would rest by three TURNS, by two it may as well go.
            String rests = "line 1 0 3 2 1;line 0 0 9 1 1;", still = "line 0 0 9 1 1;";
            LastChange y = told(t == 0 ? game(rests, still) : game(still, rests));
            y.see(last);
            y.turn(0, 0);
            y.play(NO_GOAL, 1, 3, 3);
            due("TEAM " + t + " looks two TURNS ahead: LEGS of LINE 0", y.unit(t, 0, 5), 0);
        }
        // LINE 0 with 2 of 4 LEGS is worth 80, LINE 1 78; by two TURNS LINE 1 and LINE 0, rested, 78 + 160.
        String own = "line 80 0 4 2 2;line 39 0 9 1 1;";
        for (int t = 0; t < 2; t++) for (int last = 0; last < 2; last++) for (int clock = 1; clock <= 3; clock++) {
            LastChange y = told("clock " + (clock + 1) + ";team 0;" + (t == 0 ? own : "line 0 0 9 1 1;") + "team 0;" + (t == 1 ? own : "line 0 0 9 1 1;"));
            y.see(last);
            y.turn(0, 0);
            y.play(NO_GOAL, 1, 3, 3);
            due("TEAM " + t + " by CLOCK " + clock + ": LEGS of LINE 0", y.unit(t, 0, 5), clock == 1 ? 0 : 4);
        }

        about("of several the least.");
        for (int t = 0; t < 2; t++) for (int last = 0; last < 2; last++) for (int way : new int[] {0, 2, 3}) {
            String three = way == 0 ? "line 0 99 8 1 1;line 0 99 9 1 1;line 0 99 9 1 1;" : "line 0 0 9 1 1;line 10 0 9 1 1;line 10 0 9 1 1;";
            LastChange x = told(t == 0 ? game(three, "line 0 0 9 1 1;") : game("line 0 0 9 1 1;", three));
            x.see(last);
            sends("WAY " + way, x, t, way, 1);
            LastChange alike = told(game(WALL.repeat(4), WALL.repeat(4)));
            alike.see(last);
            sends("WAY " + way + ", all alike", alike, t, way, 0);
        }
    }

    private static void shot(String what, LastChange x, int draw, int home, int away) {
        x.play(seedOf(draw), 1, 0, 0);
        due(what + ", DRAW " + draw + ": GOALS", x.team(0, 3) + ":" + x.team(1, 3), home + ":" + away);
        x.undo();
    }

    private static void draws() {
        about("Then a DRAW of 1000: below the CHANCE of TEAM 0: a GOAL for it; else below both CHANCES together: one for TEAM 1; none else;");
        LastChange x = told(game(L, L));
        int[][] even = {{0, 1, 0}, {99, 1, 0}, {100, 0, 1}, {199, 0, 1}, {200, 0, 0}, {999, 0, 0}};
        for (int[] e : even) shot("100 and 100", x, e[0], e[1], e[2]);
        LastChange never = told(game(L, "line 0 99 1 1 1;"));
        shot("0 and 100", never, 0, 0, 1);
        shot("0 and 100", never, 99, 0, 1);
        shot("0 and 100", never, 100, 0, 0);
        LastChange wall = told(game(WALL, WALL));
        shot("0 and 0", wall, 0, 0, 0);
        LastChange most = told("clock 9;extra 300;team 0;line 99 0 1 1 1;team 0;line 99 0 1 1 1;");
        most.set(0, 3, 1);
        most.set(1, 3, 1);
        int[][] wide = {{0, 1, 0}, {449, 1, 0}, {450, 0, 1}, {899, 0, 1}, {900, 0, 0}};
        for (int[] e : wide) shot("450 and 450", most, e[0], e[1], e[2]);

        LastChange odd = told("clock 9;team 2;" + L + "team 1;" + L);
        int[][] uneven = {{98, 1, 0}, {99, 0, 1}, {196, 0, 1}, {197, 0, 0}};
        for (int[] e : uneven) shot("99 and 98", odd, e[0], e[1], e[2]);

        about("(GOALS are 99 at most)");
        x.set(0, 0, 98);
        x.set(1, 0, 98);
        shot("98 each", x, 0, 99, 98);
        shot("98 each", x, 100, 98, 99);
        x.set(0, 0, 99);
        x.set(1, 0, 99);
        shot("99 each", x, 0, 99, 99);
        shot("99 each", x, 100, 99, 99);

        about("a GOAL ends SHORT of the other TEAM; then the TURN.");
        for (int goals : new int[] {0, 99}) {
            LastChange y = told(game(L + P, L + P));
            y.set(0, 0, goals);
            y.set(1, 0, goals);
            y.set(0, 1, 15);
            y.set(1, 1, 15);
            int[][] shorts = {{0, 14, 0}, {100, 0, 14}, {200, 14, 14}};
            for (int[] s : shorts) {
                y.play(seedOf(s[0]), 1, 0, 0);
                due("SHORT of TEAM 0 by DRAW " + s[0] + ", GOALS " + goals, y.team(0, 4), s[1]);
                due("SHORT of TEAM 1 by DRAW " + s[0] + ", GOALS " + goals, y.team(1, 4), s[2]);
                due("the TURN comes, too: PAIRS", y.unit(0, 1, 5) + y.unit(1, 1, 5), 0);
                y.undo();
            }
        }
        LastChange z = told(game(L + P, L + P));
        z.set(1, 1, 15);
        // DRAWS 0, 468: a GOAL, then none: TEAM 1's PAIR, then its LINE.
        z.play(0, 2, 0, 0);
        due("the LINE comes behind the GOAL", said(z), "1l0p1*/0l0p1@7");

        about("A DRAW of n: x, at first the seed, becomes x times 1103515245 and 12345 (an int that wraps); its bits 16 to 30 MOD n.");
        // The DRAWS were counted apart from any Java: of 1: 838 758 113 515 51 627, of 3: 747 107 365 312 622 796,
        // of 0 and the least int: 0 468 988 117 498 927, of -1 and the most: 929 409 862 718 713 226; CHANCES 100 each.
        int[] seeds = {1, LEAST + 1, 3, 0, LEAST, -1, MOST};
        int[][] goals = {{0, 0, 1, 1, 11, 11}, {0, 0, 1, 1, 11, 11}, {0, 1, 1, 1, 1, 1}, {10, 10, 10, 11, 11, 11}, {10, 10, 10, 11, 11, 11}, {0, 0, 0, 0, 0, 0}, {0, 0, 0, 0, 0, 0}};
        for (int i = 0; i < seeds.length; i++) for (int n = 1; n <= 6; n++) {
            LastChange y = told(game(L, L));
            y.play(seeds[i], n, 0, 0);
            due("GOALS of seed " + seeds[i] + ", n " + n, y.team(0, 3) * 10 + y.team(1, 3), goals[i][n - 1]);
        }
    }

    private static void act(LastChange x, int kind) {
        switch (kind) {
            case 0: x.turn(Integer.numberOfTrailingZeros(x.team(0, 7)), Integer.numberOfTrailingZeros(x.team(1, 7))); break;
            case 1: x.play(0, 2, 1, 1); break;
            case 2: x.set(0, 0, x.team(0, 3) + 1); break;
            case 3: x.set(1, 1, x.team(1, 4) + 1); break;
            case 4: x.set(0, 2, 1); break;
            case 5: x.set(1, 3, 1 - x.team(1, 5)); break;
            default: x.see(1 - x.count(1)); break;
        }
    }

    private static void acts() {
        String[] names = {"a TURN", "a GAME", "GOALS", "SHORT", "STAYS", "KEEPERS", "LAST"};
        about("ACTS: a TURN, a GAME, GOALS, SHORT, STAYS, KEEPERS, LAST told:");
        for (int kind = 0; kind < 7; kind++) {
            LastChange x = told(game(L + L + P, L + L + P));
            String before = all(x);
            act(x, kind);
            due(names[kind] + ": ACTS", x.count(3), 1);
            holds(names[kind] + " changes something", !said(x).equals("0l1l1p1*/0l1l1p1@9"));
            due(names[kind] + ": undo()", x.undo(), 0);
            due(names[kind] + " undone", all(x), before);
        }

        about("the latest 16 are kept (also where nothing changes)");
        LastChange x = told("clock 0;team 0;" + L + "team 0;" + L);
        for (int i = 1; i <= 18; i++) {
            switch (i % 7) {
                case 0: x.play(1, 5, 0, 0); break;
                case 1: x.play(1, 0, 0, 0); break;
                case 2: x.set(0, 0, 0); break;
                case 3: x.set(1, 1, 0); break;
                case 4: x.set(0, 2, NONE); break;
                case 5: x.set(1, 3, 0); break;
                default: x.see(0); break;
            }
            due("ACTS behind " + i, x.count(3), Math.min(i, 16));
        }
        LastChange no = told("clock 0;team 0;" + L + "team 0;" + L);
        no.turn(0, 0);
        no.games(1, 5, 5, 0, 0, 0);
        no.image();
        no.say();
        no.value(2);
        due("what is none of them", no.count(3), 0);

        about("and UNDONE one by one, the latest first.");
        LastChange y = told(game(L + L + P, L + L + P).replace("clock 9", "clock 99"));
        String[] states = new String[40];
        int done = 0;
        for (; done < 19; done++) {
            states[done] = brief(y);
            act(y, done % 7);
        }
        for (int i = 0; i < 5; i++) {
            done--;
            due("undo() of 16", y.undo(), 15 - i);
            due("the state ahead of it", brief(y), states[done]);
        }
        for (int i = 0; i < 3; i++, done++) {
            states[done] = brief(y);
            act(y, (done + 3) % 7);
        }
        for (int i = 13; i >= 0; i--) {
            done--;
            due("undo() of 14", y.undo(), i);
            due("the state ahead of it", brief(y), states[done]);
        }
        due("undo() of none", y.undo(), NONE);
        due("nothing changes", brief(y), states[3]);
    }

    /** What act() changes, in few calls: an object has but 512. */
    private static String brief(LastChange x) {
        StringBuilder b = new StringBuilder().append(x.count(0)).append(' ').append(x.count(1));
        int[][] asked = {{0, 3}, {0, 6}, {0, 8}, {1, 4}, {1, 5}};
        for (int[] a : asked) b.append(' ').append(x.team(a[0], a[1]));
        return b.toString();
    }

    private static void constants() {
        about("The constants: NONE = -1 : There is none.");
        due("NONE", LastChange.NONE, -1);
        due("there is none", new LastChange().undo(), LastChange.NONE);

        about("HIDDEN = -1000000 : No number.");
        due("HIDDEN", LastChange.HIDDEN, -1000000);
        due("no number", new LastChange().turn(0, 0), LastChange.HIDDEN);
    }

    public static void main(String[] args) throws IOException {
        under("Terms");
        part("==== 3.", "");
        odds();
        lengths();
        firstWays();
        otherWays();
        draws();
        acts();
        constants();
        close("GamesTest", args);
    }
}
