import java.io.IOException;
import java.nio.file.Files;
import java.nio.file.Path;
import java.util.ArrayList;
import java.util.List;
import java.util.NoSuchElementException;
import java.util.function.Supplier;

/**
 * What the tests by sentence share: which sentence of the document is asked for, what is due by it, texts
 * told, all that can be seen of an object. A test quotes the document's own words; given the path of DOC.md
 * it also tells which words of its heads nobody quotes.
 */
class Sentences {
    interface Ask { long of(LastChange x); }

    static final Class<? extends RuntimeException> NO_SUCH = NoSuchElementException.class;
    static final Class<? extends RuntimeException> ILLEGAL = IllegalArgumentException.class;
    static final int NONE = -1;
    static final int HIDDEN = -1000000;
    static final int LEAST = Integer.MIN_VALUE;
    static final int MOST = Integer.MAX_VALUE;

    static final String L = "line 0 0 1 1 1;";
    static final String P = "pair 0 0 1 1 1;";

    /** EDGES of LINES 0, 1 of TEAM 0 with LINES 0, 1 of TEAM 1: -10 40, -10 40. */
    static final String USUAL = "clock 10;extra 200;"
            + "team last 20;line 60 40 10 3 2;line 40 60 8 2 1;pair 30 50 6 2 2;"
            + "team 30;line 50 50 10 4 3;line 45 30 5 1 1;pair 20 40 4 1 1;";

    static final int[] NO_TEAM = {LEAST, -2, -1, 2, 3, MOST};
    static final int[] NO_AHEAD = {LEAST, -1, 0, 5, MOST};

    private static final List<String[]> QUOTED = new ArrayList<>();
    private static String head = "";
    private static String from = "";
    private static String to = "";
    private static int firstPromise = 0;
    private static int lastPromise = -1;
    private static String words = "";
    private static int askedHere = 1;
    private static int asked = 0;
    private static int wrong = 0;

    /** The head of the document under which the next sentences stand. */
    static void under(String title) { head = title; }

    /** Only the part of each head that begins with some words (ends ahead of some) is the test's own. */
    static void part(String first, String end) {
        from = first;
        to = end;
    }

    /** These promises are the test's own, each with all its sentences. */
    static void promises(int first, int last) {
        firstPromise = first;
        lastPromise = last;
    }

    /** The next asks are about this sentence. */
    static void about(String sentence) {
        closeSentence();
        words = sentence;
        askedHere = 0;
        QUOTED.add(new String[] {head, sentence});
    }

    private static void closeSentence() {
        if (askedHere == 0) complain("nothing is asked of it");
    }

    private static void complain(String what) {
        wrong++;
        System.out.println(head + ", \"" + words + "\": " + what);
    }

    static void due(String call, long got, long want) {
        asked++;
        askedHere++;
        if (got != want) complain(call + " answered " + got + ", due is " + want);
    }

    static void due(String call, String got, String want) {
        asked++;
        askedHere++;
        if (!got.equals(want)) complain(call + " is " + got + ", due is " + want);
    }

    static void holds(String what, boolean so) {
        asked++;
        askedHere++;
        if (!so) complain(what);
    }

    private static String answer(LastChange x, Ask ask) {
        try {
            return "answered " + ask.of(x);
        } catch (RuntimeException e) {
            return "threw " + e.getClass().getSimpleName();
        }
    }

    static void throwsIt(LastChange x, String call, Class<? extends RuntimeException> due, Ask ask) {
        due(call, answer(x, ask), "threw " + due.getSimpleName());
    }

    /** Two objects made alike: the call is refused on one of them, and both stay alike, through what can be undone, too. */
    static void refused(Supplier<LastChange> made, String call, String due, Ask ask) {
        LastChange x = made.get(), twin = made.get();
        due(call, answer(x, ask), due);
        due("all behind " + call, all(x) + lately(x), all(twin) + lately(twin));
        while (twin.undo() != NONE) x.undo();
        due("ACTS behind " + call, x.undo(), NONE);
        due("all behind " + call + " with all ACTS undone", all(x), all(twin));
        due("back() behind " + call, x.back() ? 1 : 0, twin.back() ? 1 : 0);
        due("all behind " + call + " and back()", all(x), all(twin));
    }

    /** An object with something in every place that a refused call could spoil; TEAM 1 is SHORT: its PAIR alone MAY be sent. */
    static LastChange busy() {
        LastChange x = told(USUAL);
        tell(x, "clock 100");
        x.set(0, 0, 3);
        x.turn(0, 1);
        x.image();
        x.set(1, 1, 2);
        x.set(0, 3, 1);
        x.say();
        feed(x, "clock 1;team 0;");
        return x;
    }

    static void refuses(String call, Class<? extends RuntimeException> due, Ask ask) {
        refuses(Sentences::busy, call, due, ask);
    }

    static void refuses(Supplier<LastChange> made, String call, Class<? extends RuntimeException> due, Ask ask) {
        refused(made, call, "threw " + due.getSimpleName(), ask);
    }

    /** A text of TEAMS without SAVES: nothing but their UNITS counts. */
    static String game(String home, String away) {
        return "clock 9;team 0;" + home + "team 0;" + away;
    }

    /** Bytes, padded by blanks to whole feeds, come behind the tape. */
    static int feed(LastChange x, String text) {
        for (int at = 0; at < text.length(); at += 20) {
            int[] v = new int[5];
            for (int i = 0; i < 20; i++) {
                int sign = at + i < text.length() ? text.charAt(at + i) : ' ';
                v[i / 4] = v[i / 4] << 8 | sign;
            }
            x.feed(v[0], v[1], v[2], v[3], v[4]);
        }
        return text.length();
    }

    static int tell(LastChange x, String text) { return x.game(feed(x, text)); }

    static LastChange told(String text) {
        LastChange x = new LastChange();
        int found = tell(x, text);
        if (found != 0) throw new AssertionError("fault " + found + " at " + x.fault() + " of " + text);
        return x;
    }

    /** The FAULT of a text and its place, read by an object that has something to lose. */
    static void fault(String text, int code, int place) {
        LastChange x = new LastChange();
        String shown = text.replace("\n", "\\n");
        due("game() of \"" + shown + "\"", tell(x, text), code);
        due("fault() of \"" + shown + "\"", x.fault(), place);
    }

    static void fine(String text) { fault(text, 0, NONE); }

    /** A number that stands between two parts of a text: its bounds are in, what is beyond is FAULT 2 at its place. */
    static void bounds(String before, String after, int least, int most) {
        fine(before + least + after);
        fine(before + most + after);
        fine(before + "000000000000" + most + after);
        if (least > 0) fault(before + (least - 1) + after, 2, before.length());
        fault(before + (most + 1) + after, 2, before.length());
        for (long beyond : new long[] {256L + least, 1000, 65536L + least, 2147483648L, 4294967296L + least, 10000000000L + least}) {
            if (beyond > most) fault(before + beyond + after, 2, before.length());
        }
        fault(before + "18446744073709551617" + after, 2, before.length());
        fault(before + "9".repeat(200) + after, 2, before.length());
    }

    static String said(LastChange x) {
        int n = x.say();
        StringBuilder b = new StringBuilder();
        for (int i = 0; i < n; i++) b.append((char) x.said(i));
        return b.toString();
    }

    /** All that can be asked of the state, but what was SAID: some hundred calls at most. */
    static String all(LastChange x) {
        StringBuilder b = new StringBuilder();
        for (int w = 0; w < 6; w++) b.append(x.count(w)).append(' ');
        b.append("fault ").append(x.fault());
        for (int t = 0; t < 2; t++) {
            b.append(" team");
            for (int w = 0; w < 9; w++) b.append(' ').append(x.team(t, w));
            int units = x.team(t, 0) + x.team(t, 1);
            for (int u = 0; u < units; u++) for (int w = 0; w < 6; w++) b.append(w == 0 ? ", " : " ").append(x.unit(t, u, w));
        }
        return b.toString();
    }

    /** What was SAID the latest time. */
    static String lately(LastChange x) {
        StringBuilder b = new StringBuilder(" said ");
        for (int i = 0; i < 60 && x.said(i) != NONE; i++) b.append((char) x.said(i));
        return b.toString();
    }

    /** The DRAW of 1000 that follows a seed. */
    static int draw(int seed) { return ((seed * 1103515245 + 12345) >>> 16 & 0x7fff) % 1000; }

    static int seedOf(int draw) {
        for (int seed = 0; seed < 1000000; seed++) if (draw(seed) == draw) return seed;
        throw new AssertionError("no seed draws " + draw);
    }

    private static String plain(String text) { return text.replaceAll("[`\\s]+", " ").trim(); }

    private static void lookUp(Path doc) throws IOException {
        for (String part : Files.readString(doc).split("(?m)^## ")) {
            String title = part.split("\n")[0];
            if (!isOwn(title)) continue;
            String text = part.substring(title.length()).replaceFirst("^\\s+`[^`]*`:", "").replaceAll("```(text)?", " ");
            String body = own(plain(text));
            for (String[] q : QUOTED) {
                if (!title.equals(q[0])) continue;
                if (!body.contains(plain(q[1]))) { wrong++; System.out.println(title + " doesn't say \"" + q[1] + "\""); }
            }
            tellUnquoted(title, body);
        }
    }

    private static boolean isOwn(String title) {
        if (title.startsWith("Promise ")) {
            int n = Integer.parseInt(title.replaceAll("\\D+(\\d+).*", "$1"));
            return n >= firstPromise && n <= lastPromise;
        }
        return title.equals("Terms") && title.equals(head);
    }

    private static String own(String body) {
        int end = to.isEmpty() ? body.length() : body.indexOf(to);
        return body.substring(Math.max(0, body.indexOf(from)), end < 0 ? body.length() : end);
    }

    private static void tellUnquoted(String title, String body) {
        boolean[] quoted = new boolean[body.length()];
        for (String[] q : QUOTED) {
            String words = plain(q[1]);
            for (int at = body.indexOf(words); title.equals(q[0]) && at >= 0; at = body.indexOf(words, at + 1)) {
                for (int i = 0; i < words.length(); i++) quoted[at + i] = true;
            }
        }
        StringBuilder left = new StringBuilder();
        for (int i = 0; i < body.length(); i++) left.append(quoted[i] ? '\t' : body.charAt(i));
        for (String rest : left.toString().split("\t+")) {
            if (rest.matches(".*[A-Za-z0-9].*")) { wrong++; System.out.println(title + ": nobody quotes \"" + rest.trim() + "\""); }
        }
    }

    static void close(String name, String[] args) throws IOException {
        closeSentence();
        if (args.length > 0) lookUp(Path.of(args[0]));
        System.out.println(name + ": " + QUOTED.size() + " sentences, " + asked + " asked, " + wrong + " wrong");
        if (wrong > 0) System.exit(1);
    }
}
