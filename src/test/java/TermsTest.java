import java.io.IOException;
import java.util.ArrayList;
import java.util.Arrays;
import java.util.List;

/** The document's 'Terms' up to ==== 2, sentence by sentence: the bounds of every number, the text and its FAULTS. */
public final class TermsTest extends Sentences {
    private static void teamsAndUnits() {
        about("TEAMS 0 and 1");
        LastChange x = told(game(L + L, L));
        due("team(0, 0)", x.team(0, 0), 2);
        due("team(1, 0)", x.team(1, 0), 1);
        throwsIt(x, "team(2, 0)", NO_SUCH, y -> y.team(2, 0));
        throwsIt(x, "team(-1, 0)", NO_SUCH, y -> y.team(-1, 0));

        about("each with LINES (1 to 4)");
        for (int n = 1; n <= 4; n++) {
            due("LINES of TEAM 0", told(game(L.repeat(n), L)).team(0, 0), n);
            due("LINES of TEAM 1", told(game(L, L.repeat(n))).team(1, 0), n);
        }
        fault(game("", L), 4, 15);
        fault(game(L, ""), 4, 37);
        fault(game(L.repeat(5), L), 3, 15 + 4 * L.length());
        fault(game(L, L.repeat(5)), 3, 37 + 4 * L.length());

        about("PAIRS (0 to 2)");
        for (int n = 0; n <= 2; n++) {
            due("PAIRS of TEAM 0", told(game(L + P.repeat(n), L)).team(0, 1), n);
            due("PAIRS of TEAM 1", told(game(L, L + P.repeat(n))).team(1, 1), n);
        }
        fault(game(L + P.repeat(3), L), 3, 30 + 2 * P.length());
        fault(game(L, L + P.repeat(3)), 3, 52 + 2 * P.length());

        about("a SAVE (0 to 99; of its KEEPER)");
        bounds("clock 9;team ", ";" + L + "team 0;" + L, 0, 99);
        bounds("clock 9;team last ", ";" + L + "team 0;" + L, 0, 99);
        bounds(game(L, "").replace("team 0;line", "team 1;line").replaceAll("0;$", ""), ";" + L, 0, 99);
        LastChange saves = told("clock 9;team 0;" + L + "team 99;" + L);
        due("SAVE of TEAM 0", saves.team(0, 2), 0);
        due("SAVE of TEAM 1", saves.team(1, 2), 99);

        about("UNITS of a TEAM are its LINES, then its PAIRS, numbered together from 0 on.");
        String six = "line 1 0 1 1 1;line 2 0 1 1 1;line 3 0 1 1 1;line 4 0 1 1 1;pair 5 0 1 1 1;pair 6 0 1 1 1;";
        for (int t = 0; t < 2; t++) {
            int team = t;
            LastChange y = told(t == 0 ? game(six, L + P) : game(L + P, six));
            for (int u = 0; u < 6; u++) due("ATTACK of UNIT " + u, y.unit(t, u, 0), u + 1);
            throwsIt(y, "UNIT 6", NO_SUCH, z -> z.unit(team, 6, 0));
            throwsIt(y, "UNIT -1", NO_SUCH, z -> z.unit(team, -1, 0));
            due("UNIT 1 of the other one, a PAIR", y.unit(1 - t, 1, 0), 0);
            throwsIt(y, "UNIT 2 of the other one", NO_SUCH, z -> z.unit(1 - team, 2, 0));
        }
    }

    private static void numbersOfUnits() {
        String[] sentences = {"A UNIT has ATTACK, GUARD (0 to 99)", "GUARD (0 to 99)", "FULL (1 to 15)", "TIRES, RESTS (1 to 7)", "RESTS (1 to 7)"};
        int[] least = {0, 0, 1, 1, 1}, most = {99, 99, 15, 7, 7};
        String[] befores = {"clock 9;team 0;line ", "clock 9;team 0;" + L + "pair ", game(L, "line "), game(L, L + P + "pair ")};
        for (int i = 0; i < 5; i++) {
            about(sentences[i]);
            for (int b = 0; b < befores.length; b++) {
                String before = befores[b] + "1 ".repeat(i);
                String after = " 1".repeat(4 - i) + ";" + (b < 2 ? "team 0;" + L : "");
                bounds(before, after, least[i], most[i]);
                for (int v : new int[] {least[i], most[i]}) {
                    int unit = b == 1 ? 1 : b == 3 ? 2 : 0;
                    due("number " + i + " of " + before, told(before + v + after).unit(b / 2, unit, i), v);
                }
            }
        }
        about("LEGS (0 to FULL; FULL at first).");
        LastChange x = told(game("line 0 0 15 7 7;", "line 0 0 1 1 1;pair 0 0 9 1 1;"));
        due("LEGS at first", x.unit(0, 0, 5), 15);
        due("LEGS at first", x.unit(1, 0, 5), 1);
        due("LEGS of a PAIR at first", x.unit(1, 1, 5), 9);
        int[] legs = {8, 1, 0, 0};
        for (int want : legs) {
            x.turn(0, 0);
            due("LEGS then", x.unit(0, 0, 5), want);
            due("LEGS of who rests", x.unit(1, 1, 5), 9);
        }
    }

    private static void otherNumbers() {
        about("CLOCK: TURNS that are left (0 to 99).");
        bounds("clock ", ";team 0;" + L + "team 0;" + L, 0, 99);
        for (int v : new int[] {0, 1, 99}) due("CLOCK", told("clock " + v + ";team 0;" + L + "team 0;" + L).count(0), v);

        about("LAST: the TEAM that sees (0 at first).");
        due("LAST of a new object", new LastChange().count(1), 0);
        LastChange x = told(game(L, L));
        due("LAST of a text that tells none", x.count(1), 0);
        x.see(1);
        tell(x, game(L, L));
        due("LAST of a text behind see(1)", x.count(1), 0);
        tell(x, "clock 9;team 0;" + L + "team last 0;" + L);
        due("LAST of a text that tells TEAM 1", x.count(1), 1);
        tell(x, game(L, L));
        due("LAST of a text that tells none, behind that", x.count(1), 0);
        tell(x, "clock 9;team 0;" + L + "team last 0;");
        tell(x, game(L, L));
        due("LAST of a text that tells none, behind a FAULT", x.count(1), 0);

        about("EXTRA: 0 to 300 (150 at first).");
        bounds("clock 9;extra ", ";team 0;" + L + "team 0;" + L, 0, 300);
        bounds(game(L, L) + "extra ", ";", 0, 300);
        due("EXTRA of a new object", new LastChange().count(2), 150);
        for (int v : new int[] {0, 300}) {
            tell(x, "clock 9;extra " + v + ";team 0;" + L + "team 0;" + L);
            due("EXTRA", x.count(2), v);
        }
        tell(x, game(L, L));
        due("EXTRA of a text that tells none", x.count(2), 150);

        String[] sentences = {"Each TEAM has GOALS (0 to 99; 0 at first)", "is SHORT for so many TURNS (0 to 15; 0 at first)",
            "STAYS with a UNIT or doesn't.", "has its KEEPER PULLED or not (not at first)"};
        int[] asWhat = {3, 4, 6, 5}, first = {0, 0, NONE, 0}, least = {0, 0, NONE, 0}, most = {99, 15, 1, 1};
        for (int w = 0; w < 4; w++) {
            int what = w, beyond = most[w] + 1, below = least[w] - 1;
            about(sentences[w]);
            for (int t = 0; t < 2; t++) {
                int team = t;
                due("at first", new LastChange().team(t, asWhat[w]), first[w]);
                LastChange y = told(game(L + P, L + P));
                due("at first", y.team(t, asWhat[w]), first[w]);
                for (int v : new int[] {most[w], least[w], most[w]}) {
                    y.set(t, w, v);
                    due("behind set to " + v, y.team(t, asWhat[w]), v);
                    due("of the other one", y.team(1 - t, asWhat[w]), first[w]);
                }
                throwsIt(y, "set to " + beyond, ILLEGAL, z -> z.set(team, what, beyond));
                throwsIt(y, "set to " + below, ILLEGAL, z -> z.set(team, what, below));
                tell(y, game(L + P, L + P));
                due("at first of a text", y.team(t, asWhat[w]), first[w]);
            }
        }
    }

    private static void tokens() {
        String two = "team 0;" + L + "team 0;" + L;
        about("A TEXT of at most 500 bytes tells a GAME.");
        String lines = "line 99 99 15 7 7;".repeat(4) + "pair 99 99 15 7 7;".repeat(2);
        String most = "clock 99;team last 99;" + lines + "team last 99;" + lines;
        String open = most.substring(0, most.length() - 1);
        String blanks = " ".repeat(499 - open.length());
        fine(open + blanks + ";");
        fine(" ".repeat(500 - most.length()) + most);
        fault(open + blanks + "x", 1, 499);
        fault(open + blanks + " ", 1, 500);

        about("TOKENS: words (a .. z, the longest row)");
        fault("clocka 1;", 1, 0);
        fault("clockz 1;", 1, 0);
        fault("aclock 1;", 1, 0);
        fault("zclock 1;", 1, 0);
        fault("clo ck 1;", 1, 0);
        fault("clock`1;", 1, 5);
        fault("clock{1;", 1, 5);
        fault("clockA1;", 1, 5);
        fault("clock 1;teamlast 0;", 1, 8);
        fault("clock 1;team lastx 0;", 1, 13);
        fault("clock 1;te am 0;", 1, 8);
        for (String part : new String[] {"c", "cloc", "lock", "block", "clack", "clocc"}) fault(part + " 1;", 1, 0);
        for (String part : new String[] {"beam", "teal", "fine", "lint", "hair", "paid", "dxtra", "extrb"}) fault(game(L, "") + part + " 1", 1, 37);
        fault("clock 1;team past 0;", 1, 13);
        fault("clock 1;team lasu 0;", 1, 13);
        for (String part : new String[] {"t", "tea", "teams", "lin", "lines", "pai", "pairs", "extr", "extras", "a", "z"}) fault(game(L, "") + part + " 1", 1, 37);

        about("NUMBERS (the longest row of figures)");
        due("clock 09", told("clock 09;" + two).count(0), 9);
        due("clock 90", told("clock 90;" + two).count(0), 90);
        fault("clock 1 0;" + two, 1, 8);
        fault("clock 1/;", 1, 7);
        fault("clock 1:;", 1, 7);
        fault("clock /1;", 1, 6);
        fault("clock :1;", 1, 6);
        fault("clock -1;", 1, 6);
        fault("clock +1;", 1, 6);
        fault("clock 1a;", 1, 7);
        fault("clock 1.0;", 1, 7);

        about("; and blanks (32, 10) between them, which count for nothing.");
        fine("clock1;team0;line0 0 1 1 1;team0;line0 0 1 1 1;");
        fine("\n \nclock\n\n1 ; team  0 ;\nline 0\n0 1 1  1;team\n0;line 0 0 1 1 1 ; \n");
        fine("clock 1;teamlast".replace("teamlast", "team\nlast0;") + L + "team last0;" + L);
        for (int sign : new int[] {0, 1, 9, 11, 12, 13, 31, 33, 42, 58, 59 + 1, 127, 128, 138, 160, 255}) {
            fault((char) sign + "clock 1;" + two, 1, 0);
            fault("clock 1;" + (char) sign + two, 1, 8);
            fault("clock 1;" + two + (char) sign, 1, 8 + two.length());
        }
    }

    private static void grammar() {
        about("In quotes is what stands there, * any number of times, ? at most once, | one of some.");
        fault("clock 1;team last last 0;", 1, 18);
        fault("clock 1;team;", 1, 12);
        fault("clock 1;", 4, 8);
        fault("clock 1;extra 1 line", 1, 16);

        about("TEXT: 'clock' NUMBER ';' (LINE ';')*.");
        fault("", 1, 0);
        fault(game(L, L).substring(8), 1, 0);
        fault("clock 1;clock 1;", 1, 8);
        fault("clock 1;;", 1, 8);
        fault(";clock 1;", 1, 0);
        fault(game(L, L) + ";", 1, 52);
        fault(game(L, L).substring(0, 51), 1, 51);

        about("LINE: 'team' ('last')? NUMBER (SAVE; that TEAM is LAST, if so told)");
        String[] last = {"", "last "};
        for (int a = 0; a < 2; a++) for (int b = 0; b < 2; b++) {
            LastChange x = told("clock 1;team " + last[a] + "5;" + L + "team " + last[b] + "6;" + L);
            due("LAST of " + a + ", " + b, x.count(1), b);
            due("SAVE", x.team(0, 2) * 100 + x.team(1, 2), 506);
        }
        fault("clock 1;team 5 last;", 1, 15);

        about("| 'line' FIVE | 'pair' FIVE | 'extra' NUMBER.");
        due("extra told twice", told("clock 1;extra 5;extra 7;" + game(L, L).substring(8)).count(2), 7);
        due("extra among units", told(game("extra 3;" + L + "extra 4;" + P, L) + "extra 0;").count(2), 0);
        fault("clock 1;extra 1 1;", 1, 16);
        fault("clock 1;extra;", 1, 13);

        about("FIVE: NUMBER NUMBER NUMBER NUMBER NUMBER (ATTACK, GUARD, FULL, TIRES, RESTS).");
        for (String word : new String[] {"line", "pair"}) {
            String before = "clock 1;team 0;" + L + word;
            for (int n = 0; n < 5; n++) fault(before + " 1".repeat(n) + ";", 1, before.length() + 2 * n);
            fault(before + " 1".repeat(6) + ";", 1, before.length() + 11);
            LastChange x = told(before + " 11 12 13 4 5;team 0;" + L);
            int[] five = {11, 12, 13, 4, 5, 13};
            for (int w = 0; w < 6; w++) due("number " + w + " of a " + word, x.unit(0, 1, w), five[w]);
        }

        about("Two TEAMS are told; LINES, PAIRS are those of the TEAM that was told last, its PAIRS behind all its LINES.");
        LastChange y = told(game(L + L + L + P, L + P + P));
        due("LINES, PAIRS", y.team(0, 0) * 1000 + y.team(0, 1) * 100 + y.team(1, 0) * 10 + y.team(1, 1), 3112);
        fault(game(L + P + L, L), 3, 45);
        fault(game(L, L + P + L), 3, 67);
        fine(game(L + P, L + L + P));
    }

    private static void faultsInOrder() {
        about("FAULTS: the text is gone through TOKEN by TOKEN; at the first TOKEN at which one of these is so it is that");
        fault("clock 100;x", 2, 6);
        fault("clock x;team 100;", 1, 6);
        fault("clock 1;team 0;team 0;line 100", 4, 15);
        fault("clock 1;team 0;" + L.repeat(5) + "x", 3, 75);
        fault("clock 1;team 100;line", 2, 13);
        fault("clock 1;team 0;line 100 100 99 99 99;", 2, 20);
        fault("clock 1;team 0;line 0 0 16 8 8;", 2, 24);

        about("(the first one of this list)");
        fault(game(L, "") + "team 0;", 3, 37);
        fault(game(L, P) + "team 0;", 3, 52);
        fault("clock 1 100;", 1, 8);
        fault("clock 1;100", 1, 8);
        fault("clock 1;team 0", 1, 14);
        fault("clock 1;team 0;" + L + "team", 1, 34);
        fault("clock 1;team 0;line 1 1 1 1 1", 1, 29);

        about("its place is the TOKEN's first byte");
        fault("clock  \n 100", 2, 9);
        fault("clock 1; \n teams", 1, 11);
        fault("clock 1;team 0; pair 1 1 1 1 1;  line", 3, 33);

        about("1 it can't stand there (also a byte that begins none;");
        String unit = "clock 1;team 0;line", pair = "clock 1;team 0;pair";
        List<String> texts = new ArrayList<>(Arrays.asList("", "clock ", "clock 1 ", "clock 1;", "clock 1;team ", "clock 1;team last ",
            "clock 1;team 1 ", "clock 1;team last 1 ", "clock 1;team 1;", "clock 1;extra ", "clock 1;extra 1 ", game(L, L)));
        List<String> allowed = new ArrayList<>(Arrays.asList("clock", "5", ";", "team extra", "last 5", "5",
            ";", ";", "line pair extra team", "5", ";", "line pair extra team"));
        for (int n = 0; n <= 5; n++) for (String word : new String[] {unit, pair}) {
            texts.add(word + " 1".repeat(n) + " ");
            allowed.add(n < 5 ? "5" : ";");
        }
        for (int i = 0; i < texts.size(); i++) for (String token : "clock team last line pair extra x 5 ; ! A".split(" ")) {
            String text = texts.get(i) + token;
            boolean may = Arrays.asList(allowed.get(i).split(" ")).contains(token);
            if (!may) fault(text, 1, texts.get(i).length());
            else if (token.equals("team") && text.contains("team 0;" + L + "team")) fault(text, 3, texts.get(i).length());
            else if (token.equals("team") && text.contains("1;team")  && text.contains("team 1;")) fault(text, 4, texts.get(i).length());
            else fault(text, token.equals(";") ? 4 : 1, text.length());
        }

        about("the end, where the text can't end: its length;");
        for (int i = 0; i < texts.size(); i++) {
            String text = texts.get(i);
            if (text.endsWith(";")) continue;
            fault(text, 1, text.length());
            fault(text + " \n ", 1, text.length() + 3);
        }

        about("line, pair ahead of the first team);");
        fault("clock 1;" + L, 1, 8);
        fault("clock 1;" + P, 1, 8);
        fault("clock 1;extra 5;" + P, 1, 16);
    }

    private static void otherFaults() {
        about("2 a NUMBER that isn't as told;");
        fault("clock 100;", 2, 6);
        fault("clock 1;extra 301;", 2, 14);
        fault("clock 1;team last 100;", 2, 18);
        fault("clock 1;team 0;line 0 0 0 1 1;", 2, 24);

        about("3 the word of a third TEAM, a fifth LINE, a third PAIR of a TEAM; a LINE behind a PAIR of a TEAM;");
        fault(game(L, L) + "team", 3, 52);
        fault(game(L, L) + "team x", 3, 52);
        fault(game(L.repeat(4), "") + L.repeat(4) + "line", 3, 37 + 7 * L.length());
        fault(game(L.repeat(4), L) + P.repeat(2) + "pair", 3, 37 + 6 * L.length());
        fault(game(L + P.repeat(2), L) + P + "line", 3, 37 + 4 * L.length());
        fault("clock 9;team 0;" + P + "line", 3, 30);
        fine(game(L.repeat(4) + P.repeat(2), L.repeat(4) + P.repeat(2)));

        about("4 (at the end: the text's length; of a TEAM at the word of the next one) a TEAM has no LINE, or there aren't two.");
        fault("clock 1;", 4, 8);
        fault("clock 1; \n", 4, 10);
        fault("clock 1;extra 5;", 4, 16);
        fault("clock 1;team 0;", 4, 15);
        fault("clock 1;team 0;" + P, 4, 30);
        fault("clock 1;team 0;" + L, 4, 30);
        fault("clock 1;team 0;" + L + P + "  ", 4, 47);
        fault("clock 1;team 0;team 0;" + L, 4, 15);
        fault("clock 1;team 0;extra 5; team", 4, 24);
        fault("clock 1;team 0;" + P + "team 0;" + L, 4, 30);
        fault(game(L, ""), 4, 37);
        fault(game(L, P), 4, 52);
        fault(game(L, "extra 5;"), 4, 45);
    }

    public static void main(String[] args) throws IOException {
        under("Terms");
        part("TEAMS 0 and 1", "==== 2.");
        teamsAndUnits();
        numbersOfUnits();
        otherNumbers();
        tokens();
        grammar();
        faultsInOrder();
        otherFaults();
        close("TermsTest", args);
    }
}
