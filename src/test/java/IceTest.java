import java.io.IOException;

/** The document's 'Terms' from ==== 2 on, sentence by sentence: what a meeting is worth, TURNS ahead, PULL, GAMES, ACTS. */
public final class IceTest extends Sentences {
    /**
     * With TEAM 0's KEEPER PULLED EDGES of its LINES a, b with LINES c, d are: a,c 310; a,d 338; b,c 350; b,d 300
     * (two CHANCES of TEAM 0 are kept to 450): here it counts who sees.
     */
    private static final String CYCLE = "clock 9;extra 300;team 0;line 99 0 9 1 1;line 60 20 9 1 1;team 0;line 20 0 9 1 1;line 0 80 9 1 1;";

    private static LastChange cycle(int last) {
        LastChange x = told(CYCLE);
        x.set(0, 3, 1);
        x.see(last);
        return x;
    }

    private static void sending() {
        about("==== 2. A TEAM MAY send: if it STAYS with a UNIT, that alone;");
        for (int t = 0; t < 2; t++) {
            LastChange x = told(game(L + L + P + P, L + L + P + P));
            for (int shortFor : new int[] {0, 15}) {
                x.set(t, 1, shortFor);
                for (int u = 0; u < 4; u++) {
                    x.set(t, 2, u);
                    due("it STAYS with " + u + ", SHORT " + shortFor, x.team(t, 7), 1 << u);
                    due("the other one", x.team(1 - t, 7), 3);
                }
            }
        }
        LastChange y = told(game(L + L, L + L));
        y.set(0, 2, 1);
        y.set(1, 2, 0);
        int[][] not = {{0, 0}, {1, 1}, {0, 1}};
        for (int[] two : not) due("turn(" + two[0] + ", " + two[1] + ")", y.turn(two[0], two[1]), HIDDEN);
        due("turn(1, 0)", y.turn(1, 0), 0);

        about("else its PAIRS, if it is SHORT and has some; else its LINES.");
        for (int t = 0; t < 2; t++) {
            LastChange x = told(t == 0 ? game(L + L + P, L + L) : game(L + L, L + L + P));
            due("its LINES", x.team(t, 7), 3);
            for (int shortFor : new int[] {1, 15}) {
                x.set(t, 1, shortFor);
                x.set(1 - t, 1, shortFor);
                due("its PAIR, SHORT for " + shortFor, x.team(t, 7), 4);
                due("its LINES, SHORT without PAIRS", x.team(1 - t, 7), 3);
            }
            x.set(t, 1, 0);
            due("its LINES, the other one SHORT alone", x.team(t, 7), 3);
        }
        LastChange full = told(game(L.repeat(4) + P + P, L + P + P));
        due("four LINES", full.team(0, 7), 15);
        full.set(0, 1, 1);
        full.set(1, 1, 1);
        due("two PAIRS behind four LINES", full.team(0, 7), 48);
        due("two PAIRS behind one LINE", full.team(1, 7), 6);

        about("POWER of a UNIT: its ATTACK (or GUARD) times LEGS by FULL (cut).");
        LastChange p = told("clock 99;team 0;line 99 50 15 1 1;team 0;line 99 1 3 1 1;");
        int[] attack = {99, 92, 85, 79, 72, 66, 59, 52, 46, 39, 33, 26, 19, 13, 6, 0};
        int[] guard = {50, 46, 43, 40, 36, 33, 30, 26, 23, 20, 16, 13, 10, 6, 3, 0};
        int[][] other = {{99, 1}, {66, 0}, {33, 0}, {0, 0}};
        for (int i = 0; i < 16; i++) {
            due("POWER of ATTACK, " + (15 - i) + " of 15", p.unit(0, 0, 6), attack[i]);
            due("POWER of GUARD, " + (15 - i) + " of 15", p.unit(0, 0, 7), guard[i]);
            due("POWER of ATTACK", p.unit(1, 0, 6), other[Math.min(i, 3)][0]);
            due("POWER of GUARD", p.unit(1, 0, 7), other[Math.min(i, 3)][1]);
            p.turn(0, 0);
        }
    }

    /** The one that attacks is TEAM 0 or TEAM 1: the same is due for both. */
    private static LastChange meet(int side, int attack, int guard, int save, int extra) {
        String own = "team 0;line " + attack + " 0 1 1 1;", other = "team " + save + ";line 0 " + guard + " 1 1 1;";
        return told("clock 9;extra " + extra + ";" + (side == 0 ? own + other : other + own));
    }

    private static void chance(int side, int[] numbers, int ownShort, int otherShort, String pulled, int want) {
        LastChange x = meet(side, numbers[0], numbers[1], numbers[2], numbers[3]);
        x.set(side, 1, ownShort);
        x.set(1 - side, 1, otherShort);
        if (pulled.contains("own")) x.set(side, 3, 1);
        if (pulled.contains("other")) x.set(1 - side, 3, 1);
        String what = "ATTACK " + numbers[0] + ", GUARD " + numbers[1] + ", SAVE " + numbers[2] + ", EXTRA " + numbers[3]
            + ", SHORT " + ownShort + ", " + otherShort + ", PULLED " + pulled;
        due("CHANCE of TEAM " + side + " by " + what, x.chance(side, 0, 0), want);
    }

    private static void chances() {
        for (int side = 0; side < 2; side++) {
            about("CHANCE of a TEAM by its UNIT x and the other one's y, in thousandths: 100 and twice (POWER of ATTACK of x, less POWER of GUARD of y), less the other one's SAVE");
            chance(side, new int[] {0, 0, 0, 0}, 0, 0, "", 100);
            chance(side, new int[] {99, 0, 0, 0}, 0, 0, "", 298);
            chance(side, new int[] {10, 5, 7, 0}, 0, 0, "", 103);
            chance(side, new int[] {0, 0, 99, 300}, 0, 0, "", 1);

            about("(less nothing, if its KEEPER is PULLED), and EXTRA, if the TEAM's own KEEPER is PULLED;");
            chance(side, new int[] {10, 5, 7, 200}, 0, 0, "other", 110);
            chance(side, new int[] {10, 5, 7, 200}, 0, 0, "own", 303);
            chance(side, new int[] {10, 5, 7, 200}, 0, 0, "own other", 310);
            chance(side, new int[] {10, 5, 7, 0}, 0, 0, "own", 103);

            about("this is kept to 0 or more;");
            chance(side, new int[] {0, 49, 1, 0}, 0, 0, "", 1);
            chance(side, new int[] {0, 50, 0, 0}, 0, 0, "", 0);
            chance(side, new int[] {0, 50, 1, 0}, 0, 0, "", 0);
            chance(side, new int[] {0, 99, 99, 0}, 0, 0, "", 0);
            chance(side, new int[] {0, 99, 99, 0}, 0, 1, "", 0);
            chance(side, new int[] {0, 99, 99, 0}, 1, 0, "", 0);
            chance(side, new int[] {0, 99, 99, 300}, 0, 0, "own", 103);

            about("by 2 (cut), if the TEAM is SHORT and the other one isn't, twice, if the other one is and it isn't;");
            chance(side, new int[] {0, 0, 1, 0}, 1, 0, "", 49);
            chance(side, new int[] {0, 0, 1, 0}, 15, 0, "", 49);
            chance(side, new int[] {0, 49, 1, 0}, 1, 0, "", 0);
            chance(side, new int[] {0, 0, 1, 0}, 0, 1, "", 198);
            chance(side, new int[] {0, 0, 1, 0}, 0, 15, "", 198);
            chance(side, new int[] {0, 0, 1, 0}, 1, 1, "", 99);
            chance(side, new int[] {0, 0, 1, 0}, 15, 1, "", 99);

            about("kept to 450 at most.");
            chance(side, new int[] {99, 0, 0, 151}, 0, 0, "own", 449);
            chance(side, new int[] {99, 0, 0, 152}, 0, 0, "own", 450);
            chance(side, new int[] {99, 0, 0, 153}, 0, 0, "own", 450);
            chance(side, new int[] {99, 0, 0, 300}, 0, 0, "own", 450);
            chance(side, new int[] {62, 0, 0, 0}, 0, 1, "", 448);
            chance(side, new int[] {63, 0, 1, 0}, 0, 1, "", 450);
            chance(side, new int[] {63, 0, 0, 0}, 0, 1, "", 450);
            chance(side, new int[] {99, 0, 0, 300}, 1, 0, "own", 299);
            chance(side, new int[] {99, 0, 0, 300}, 1, 1, "own", 450);
        }
        about("EDGE of two UNITS (of TEAM 0, of TEAM 1): CHANCE of TEAM 0 less that of TEAM 1.");
        LastChange most = told("clock 9;extra 300;team 0;line 99 99 1 1 1;team 0;" + L);
        most.set(0, 3, 1);
        due("the most that there is", most.meeting(0, 2), 450);
        LastChange least = told("clock 9;extra 300;team 0;" + L + "team 0;line 99 99 1 1 1;");
        least.set(1, 3, 1);
        due("the least that there is", least.turn(0, 0), -450);
        due("alike", told(game(L, L)).by(0, 0, 1), 0);
    }

    private static void turns() {
        LastChange x = told("clock 5;team 0;line 0 0 8 7 7;line 0 0 7 7 7;line 0 0 3 7 7;pair 0 0 9 3 4;team 0;line 0 0 15 1 1;line 0 0 15 7 1;");
        about("A TURN by a UNIT of each: LEGS of both are TIRES less (0 or more), those of all other UNITS RESTS more (FULL at most);");
        int[][] sent = {{0, 0}, {1, 1}, {2, 1}, {2, 1}, {0, 0}};
        String[] then = {"0l1l7l3p9*/0l14l15@4", "0l8l0l3p9*/0l15l8@3", "0l8l7l0p9*/0l15l1@2", "0l8l7l0p9*/0l15l0@1", "0l1l7l3p9*/0l14l1@0"};
        for (int i = 0; i < 5; i++) {
            x.turn(sent[i][0], sent[i][1]);
            due("all behind TURN " + i, said(x), then[i]);
        }
        LastChange pair = told(game(L + "pair 0 0 9 3 4;", L));
        pair.set(0, 1, 2);
        int[] legs = {6, 3, 7, 9, 9};
        for (int i = 0; i < 5; i++) {
            pair.turn(i < 2 ? 1 : 0, 0);
            due("LEGS of a PAIR behind TURN " + i, pair.unit(0, 1, 5), legs[i]);
        }

        about("SHORT is one TURN less;");
        LastChange y = told(game(L, L));
        y.set(0, 1, 15);
        y.set(1, 1, 1);
        for (int i = 1; i <= 3; i++) {
            y.turn(0, 0);
            due("SHORT of TEAM 0", y.team(0, 4), 15 - i);
            due("SHORT of TEAM 1", y.team(1, 4), 0);
        }

        about("nobody STAYS any more;");
        LastChange z = told(game(L + L, L + L));
        z.set(0, 2, 1);
        z.set(1, 2, 0);
        z.turn(1, 0);
        due("TEAM 0", z.team(0, 6), NONE);
        due("TEAM 1", z.team(1, 6), NONE);
        z.set(0, 2, 1);
        z.set(1, 2, 0);
        z.play(1, 1, 0, 0);
        due("TEAM 0 behind play()", z.team(0, 6), NONE);
        due("TEAM 1 behind play()", z.team(1, 6), NONE);

        about("CLOCK is one less (0 or more).");
        LastChange c = told("clock 2;team 0;" + L + "team 0;" + L);
        c.turn(0, 0);
        due("CLOCK", c.count(0), 1);
        c.turn(0, 0);
        due("CLOCK", c.count(0), 0);
        due("a TURN by CLOCK 0", c.turn(0, 0), HIDDEN);
        due("CLOCK", c.count(0), 0);
        c.value(4);
        c.play(1, 9, 3, 3);
        due("CLOCK", c.count(0), 0);
    }

    private static void values() {
        LastChange big = told(game("line 30 0 15 1 1;", L));
        about("VALUE of k TURNS (0: 0), k 1 to 4:");
        due("value(0)", big.value(0), 0);
        // POWERS of ATTACK 30, 28, 26, 24.
        int[] sums = {0, 60, 116, 168, 216};
        for (int k = 1; k <= 4; k++) due("value(" + k + ")", big.value(k), sums[k]);
        throwsIt(big, "value(5)", ILLEGAL, x -> x.value(5));
        throwsIt(big, "value(-1)", ILLEGAL, x -> x.value(-1));

        about("the TEAM that isn't LAST sends first, the other one sees it;");
        due("TEAM 0 sees", cycle(0).value(1), 338);
        due("TEAM 1 sees", cycle(1).value(1), 310);

        about("each UNIT is one that MAY be sent;");
        LastChange stays = told(game("line 10 0 1 1 1;line 30 0 1 1 1;", L));
        int[] free = {0, 60, 80, 140}, bound = {0, 20, 80, 100};
        for (int k = 1; k <= 3; k++) due("value(" + k + ")", stays.value(k), free[k]);
        stays.set(0, 2, 0);
        for (int k = 1; k <= 3; k++) due("value(" + k + "), it STAYS in the first TURN alone", stays.value(k), bound[k]);
        LastChange away = told(game(L, "line 10 0 1 1 1;line 30 0 1 1 1;"));
        away.set(1, 2, 0);
        for (int k = 1; k <= 3; k++) due("value(" + k + "), TEAM 1 STAYS", away.value(k), -bound[k]);
        // SHORT: by the PAIR 50 - 200; by the LINE 160 / 2 - 200; not SHORT: 160 - 100, with 14 of 15 LEGS 156 - 100.
        int[][] sums2 = {{60, 116, 168, 216}, {-150, -90, -34, 18}, {-150, -300, -240, -184}, {-150, -300, -450, -390}, {-150, -300, -450, -600}, {-150, -300, -450, -600}};
        int[] shorts = {0, 1, 2, 3, 4, 15};
        for (int i = 0; i < shorts.length; i++) for (int t = 0; t < 2; t++) {
            String team = "line 30 0 15 1 1;pair 0 0 15 1 1;";
            LastChange x = told(t == 0 ? game(team, L) : game(L, team));
            x.set(t, 1, shorts[i]);
            for (int k = 1; k <= 4; k++) due("value(" + k + "), SHORT for " + shorts[i], x.value(k), (t == 0 ? 1 : -1) * sums2[i][k - 1]);
        }
        big.set(0, 1, 15);
        due("SHORT without PAIRS", big.value(1), -120);

        about("EDGE of both and VALUE of k - 1 TURNS from what is behind the TURN on (KEEPERS, GOALS as they are), together;");
        LastChange keepers = told("clock 9;extra 300;team 0;" + L + "team 99;" + L);
        due("TEAM 1's KEEPER is in", keepers.value(4), 4 * -99);
        keepers.set(0, 3, 1);
        for (int k = 0; k <= 4; k++) due("value(" + k + "), TEAM 0's is PULLED", keepers.value(k), k * 201);
        keepers.set(1, 3, 1);
        for (int k = 0; k <= 4; k++) due("value(" + k + "), both are", keepers.value(k), 0);
        keepers.set(0, 3, 0);
        for (int k = 0; k <= 4; k++) due("value(" + k + "), TEAM 1's is", keepers.value(k), k * -300);
        keepers.set(0, 0, 99);
        due("GOALS aren't asked", keepers.value(4), -1200);
        due("GOALS stay", keepers.team(0, 3), 99);

        about("TEAM 0 wants it greatest, TEAM 1 least (CLOCK isn't asked).");
        for (int clock : new int[] {0, 1, 99}) for (int last = 0; last < 2; last++) {
            LastChange x = told("clock " + clock + ";team 0;line 10 0 15 1 1;line 30 0 1 1 1;team 0;line 20 0 1 1 1;line 5 0 15 1 1;");
            x.see(last);
            due("value(1) by CLOCK " + clock, x.value(1), 60 - 40);
            // TEAM 0: 30 and 10, or 10 and 30 (LINE 1 is tired behind a TURN); TEAM 1 20 and 5.
            due("value(2) by CLOCK " + clock, x.value(2), 80 - 50);
        }
    }

    private static void choices() {
        String three = "line 0 0 9 1 1;line 10 0 9 1 1;line 10 0 9 1 1;";
        about("FIRST: the UNIT that who sends first does best to send (of several the least);");
        due("TEAM 1 sends first", cycle(0).first(1), 1);
        due("TEAM 0 sends first", cycle(1).first(1), 0);
        for (int last = 0; last < 2; last++) {
            LastChange x = told(game(three, three));
            x.see(last);
            LastChange alike = told(game(L.repeat(4), L.repeat(4)));
            alike.see(last);
            for (int k = 1; k <= 4; k++) {
                due("first(" + k + ") of like ones", x.first(k), 1);
                due("first(" + k + ") of all alike", alike.first(k), 0);
            }
        }

        about("REPLY to a UNIT: what who sees does best to send (of several the least).");
        int[][] replies = {{1, 0}, {0, 1}};
        for (int last = 0; last < 2; last++) for (int u = 0; u < 2; u++) due("reply(" + u + ", 1), LAST " + last, cycle(last).reply(u, 1), replies[last][u]);
        for (int last = 0; last < 2; last++) {
            LastChange x = told(game(three, three));
            x.see(last);
            LastChange alike = told(game(L.repeat(4), L.repeat(4)));
            alike.see(last);
            for (int k = 1; k <= 4; k++) for (int u = 0; u < 3; u++) {
                due("reply(" + u + ", " + k + ") of like ones", x.reply(u, k), 1);
                due("reply(" + u + ", " + k + ") of all alike", alike.reply(u, k), 0);
            }
        }

        about("SEEING: VALUE by how much more, for TEAM 0, were it LAST than were the other one.");
        for (int last = 0; last < 2; last++) {
            LastChange x = cycle(last);
            due("seeing(1), LAST " + last, x.seeing(1), 28);
            due("LAST stays", x.count(1), last);
            due("seeing(4) of like ones", told(game(L, L)).seeing(4), 0);
        }

        about("BLIND of k TURNS: as VALUE, but in the first of them both send at once: the greatest that TEAM 0 can be sure of (0), the least that TEAM 1 can hold it to (1), by one UNIT each.");
        for (int last = 0; last < 2; last++) {
            LastChange x = cycle(last);
            due("blind(1, 0), LAST " + last, x.blind(1, 0), 310);
            due("blind(1, 1), LAST " + last, x.blind(1, 1), 338);
            for (int k = 2; k <= 4; k++) {
                int sure = LEAST, held = MOST;
                for (int a = 0; a < 2; a++) {
                    sure = Math.max(sure, Math.min(x.by(a, 0, k), x.by(a, 1, k)));
                    held = Math.min(held, Math.max(x.by(0, a, k), x.by(1, a, k)));
                }
                due("blind(" + k + ", 0)", x.blind(k, 0), sure);
                due("blind(" + k + ", 1)", x.blind(k, 1), held);
            }
            LastChange one = told(game("line 10 0 1 1 1;line 30 0 1 1 1;", L));
            one.set(0, 2, 0);
            due("it STAYS", one.blind(2, 0), 80);
            due("it STAYS", one.blind(3, 1), 100);
        }
        blindBySome();
    }

    private static void blinds(String what, LastChange x, int k, int want) {
        for (int w = 0; w < 2; w++) due(what + ": blind(" + k + ", " + w + ")", x.blind(k, w), want);
    }

    /** Asked ahead of each change, too, so that nothing is left of what was then. */
    private static void blindBySome() {
        for (int t = 0; t < 2; t++) for (int last = 0; last < 2; last++) {
            int sign = t == 0 ? 1 : -1;
            String own = "line 60 0 1 1 1;line 10 0 1 1 1;pair 30 0 1 1 1;";
            LastChange x = told(t == 0 ? game(own, L) : game(L, own));
            x.see(last);
            blinds("its LINES", x, 1, sign * 120);
            x.set(t, 2, 1);
            blinds("it STAYS with 1", x, 1, sign * 20);
            x.set(t, 2, NONE);
            x.set(t, 1, 15);
            // by its PAIR: 160 / 2 - 200
            blinds("SHORT", x, 1, sign * -120);
            x.set(t, 1, 0);
            blinds("its LINES again", x, 1, sign * 120);
            // One alone, without LEGS: no other one can be sent while it rests.
            LastChange tired = told(t == 0 ? game("line 60 0 3 3 1;", L) : game(L, "line 60 0 3 3 1;"));
            tired.see(last);
            tired.turn(0, 0);
            for (int k = 1; k <= 4; k++) blinds("one alone, tired", tired, k, 0);
        }
    }

    private static void rotations() {
        about("ROTATION: up to 8 UNITS of TEAM 1, told by figures (the first one leftmost; each one that it MAY send then), known to TEAM 0:");
        LastChange x = told(game(L + L, L + L + P));
        due("one", x.rotation(1, 1, NONE), 0);
        due("eight", x.rotation(10101010, 8, NONE), 0);
        throwsIt(x, "nine", ILLEGAL, y -> y.rotation(0, 9, NONE));
        due("a PAIR", x.rotation(2, 1, NONE), HIDDEN);
        due("a PAIR at last", x.rotation(11111112, 8, NONE), HIDDEN);
        due("a PAIR at first", x.rotation(21111111, 8, NONE), HIDDEN);
        due("no such UNIT", x.rotation(3, 1, NONE), HIDDEN);
        due("no such UNIT", x.rotation(9, 1, NONE), HIDDEN);
        x.set(1, 2, 1);
        due("it STAYS with 1: leftmost", x.rotation(10, 2, NONE), 0);
        due("it STAYS with 1: leftmost", x.rotation(1, 2, NONE), HIDDEN);
        due("it STAYS with 1 in the first TURN alone", x.rotation(10000000, 8, NONE), 0);
        x.set(1, 2, NONE);
        x.set(1, 1, 2);
        // TEAM 1 SHORT: 200 - 50 in two TURNS.
        due("SHORT for two TURNS", x.rotation(220, 3, NONE), 300);
        for (int figures : new int[] {20, 200, 222, 120, 0, 22}) due("SHORT for two TURNS: " + figures, x.rotation(figures, 3, NONE), HIDDEN);
        x.set(1, 1, 15);
        due("SHORT for 15 TURNS", x.rotation(22222222, 8, NONE), 1200);
        due("SHORT for 15 TURNS", x.rotation(22222220, 8, NONE), HIDDEN);

        about("what TEAM 0 sends so that EDGES of all these TURNS together are greatest: how much;");
        // LINE 0 with 3, 2, 1 LEGS: 200, 132, 66; it RESTS one of three TIRED a TURN: at 0, 3, 7 (or 0, 4, 7) it is most.
        for (int last = 0; last < 2; last++) {
            LastChange y = told("clock 0;team 0;line 60 40 3 3 1;line 0 0 1 1 1;team 0;line 0 0 15 1 1;");
            y.see(last);
            int[] most = {200, 200, 266, 332, 400, 400, 466, 532};
            for (int n = 1; n <= 8; n++) due("rotation(0, " + n + ", NONE), LAST " + last, y.rotation(0, n, NONE), most[n - 1]);
        }
        LastChange z = told(game("line 30 0 1 1 1;line 10 0 1 1 1;pair 40 0 1 1 1;", L));
        z.set(0, 2, 1);
        due("TEAM 0 STAYS", z.rotation(0, 1, NONE), 20);
        due("TEAM 0 STAYS in the first TURN alone", z.rotation(0, 2, NONE), 80);
        z.set(0, 2, NONE);
        z.set(0, 1, 1);
        // SHORT by its PAIR: 180 / 2 - 200.
        due("TEAM 0 SHORT: its PAIR", z.rotation(0, 2, NONE), -110 + 60);

        LastChange alone = told("clock 9;team 0;line 60 40 3 3 1;pair 99 99 9 1 1;team 0;line 0 0 15 1 1;");
        for (int n = 8; n >= 1; n--) due("one LINE alone, n " + n, alone.rotation(0, n, NONE), 200);
        alone.set(0, 1, 15);
        due("SHORT: its PAIR", alone.rotation(0, 1, NONE), 149);
        alone.rotation(0, 8, NONE);
        alone.set(0, 1, 0);
        for (int n = 1; n <= 8; n++) due("its LINE alone again, n " + n, alone.rotation(0, n, NONE), 200);
        LastChange fewer = told("clock 0;team 0;line 60 40 3 3 1;line 0 0 1 1 1;team 0;line 0 0 15 1 1;");
        int[] less = {200, 200, 266, 332, 400, 400, 466, 532};
        for (int n = 8; n >= 1; n--) due("by fewer behind more, n " + n, fewer.rotation(0, n, NONE), less[n - 1]);
        LastChange tired = told("clock 1;team 0;line 60 40 3 3 3;line 0 0 1 1 1;team 0;line 0 0 15 1 1;");
        tired.turn(0, 0);
        int[] sums = {0, 200, 200, 400};
        for (int n = 1; n <= 4; n++) due("LINE 0 tired at first, n " + n, tired.rotation(0, n, NONE), sums[n - 1]);
        int[] sent = {1, 0, 1, 0};
        for (int i = 0; i < 4; i++) due("LINE 0 tired at first, i " + i, tired.rotation(0, 4, i), sent[i]);
        LastChange six = told(game(L.repeat(4) + P + "pair 10 0 15 1 1;", L));
        six.set(0, 1, 15);
        // SHORT: half of 100 and twice the POWER, less 200; LEGS 15, 14, .. 8 of 15.
        int together = 0;
        for (int power : new int[] {10, 9, 8, 8, 7, 6, 6, 5}) together += 50 + power - 200;
        due("its last PAIR of six UNITS", six.rotation(0, 8, NONE), together);
        for (int i = 0; i < 8; i++) due("its last PAIR, i " + i, six.rotation(0, 8, i), 5);

        about("the UNITS (of several rows the first one along it).");
        LastChange turns = told(game("line 10 0 1 1 1;line 10 0 1 1 1;", L));
        for (int i = 0; i < 8; i++) due("by turns, " + i, turns.rotation(0, 8, i), i % 2);
        LastChange alike = told(game(L.repeat(4), L));
        for (int i = 0; i < 8; i++) due("all alike, " + i, alike.rotation(0, 8, i), 0);
        LastChange rested = told("clock 0;team 0;line 60 40 3 3 1;line 0 0 1 1 1;team 0;line 0 0 15 1 1;");
        int[] row = {0, 1, 1, 0, 1, 1, 1, 0};
        for (int i = 0; i < 8; i++) due("rested, " + i, rested.rotation(0, 8, i), row[i]);
        LastChange bent = cycle(0);
        due("against c", bent.rotation(0, 1, 0), 1);
        due("against d", bent.rotation(1, 1, 0), 0);
    }

    private static void givens(String what, LastChange x, int sum, int... lines) {
        due(what + ": together", x.given(NONE), sum);
        for (int i = 0; i < lines.length; i++) due(what + ": LINE " + i, x.given(i), lines[i]);
    }

    private static void giving() {
        about("GIVEN: LINES of TEAM 0 to LINES of TEAM 1, as many as the fewer have, one to one:");
        String four = "line 10 0 1 1 1;line 40 0 1 1 1;line 20 0 1 1 1;line 30 0 1 1 1;";
        givens("four to two", told(game(four, L + L)), 140, NONE, 0, NONE, 1);
        givens("four to one", told(game(four, L)), 80, NONE, 0, NONE, NONE);
        givens("two to four", told(game(L + L, four)), -60, 0, 2);
        givens("one to four", told(game(L, four)), -20, 0);
        givens("four to four", told(game(four, four)), 0, 0, 1, 2, 3);
        givens("at a loss", told(game(L + L, "line 90 0 1 1 1;")), -180, 0, NONE);

        about("by which EDGES as all is now (who MAY be sent isn't asked) are most together;");
        givens("crosswise", cycle(0), 688, 1, 0);
        LastChange x = told(game(L + L + P, L + L + P));
        x.set(0, 1, 1);
        x.set(0, 2, 2);
        givens("SHORT", x, 2 * (50 - 200), 0, 1);
        x.set(1, 2, 1);
        givens("TEAM 1 STAYS", x, 2 * (50 - 200), 0, 1);
        LastChange tired = told(game("line 10 0 1 1 1;line 5 0 1 1 1;", L));
        tired.turn(0, 0);
        givens("tired", tired, 10, NONE, 0);

        about("of several the first one along LINES of TEAM 0 (one that is given none behind all others).");
        givens("four alike to two", told(game(L.repeat(4), L + L)), 0, 0, 1, NONE, NONE);
        givens("two alike to four", told(game(L + L, L.repeat(4))), 0, 0, 1);
        givens("four alike to four", told(game(L.repeat(4), L.repeat(4))), 0, 0, 1, 2, 3);
        givens("three to two, two of them alike", told(game(L + "line 9 0 1 1 1;" + L, L + L)), 18, 0, 1, NONE);
        givens("two to three, two of them alike", told(game(L + L, "line 9 0 1 1 1;" + L + L)), 0, 1, 2);

        about("MEETINGS: all twos of UNITS that MAY be sent now, by EDGE, the greatest first, then by the UNIT of TEAM 0, then of TEAM 1.");
        LastChange all = told(game(L.repeat(4) + P, L.repeat(4) + P + P));
        due("MEETINGS", all.count(5), 16);
        for (int k = 0; k < 16; k++) due("MEETING " + k + " of like ones", all.meeting(k, 0) * 10 + all.meeting(k, 1), k / 4 * 10 + k % 4);
        all.set(1, 1, 1);
        due("MEETINGS with two PAIRS", all.count(5), 8);
        due("the last one", all.meeting(7, 0) * 10 + all.meeting(7, 1), 35);
        all.set(0, 2, 4);
        due("MEETINGS of who STAYS", all.count(5), 2);
        due("the first one", all.meeting(0, 0) * 10 + all.meeting(0, 1), 44);
        LastChange bent = cycle(1);
        int[][] order = {{1, 0, 350}, {0, 1, 338}, {0, 0, 310}, {1, 1, 300}};
        for (int k = 0; k < 4; k++) for (int w = 0; w < 3; w++) due("meeting(" + k + ", " + w + ")", bent.meeting(k, w), order[k][w]);
    }

    public static void main(String[] args) throws IOException {
        under("Terms");
        part("==== 2.", "==== 3.");
        sending();
        chances();
        turns();
        values();
        choices();
        rotations();
        giving();
        close("IceTest", args);
    }
}
