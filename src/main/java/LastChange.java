import java.util.NoSuchElementException;

/**
 * Two teams that send units onto the ice by turns. What each call promises stands in DOC.md;
 * the words in capitals here are the ones of its 'Terms'.
 */
public final class LastChange {
    public static final int NONE = -1;
    public static final int HIDDEN = -1000000;

    private static final int UNITS = 6;
    private static final int MOST_LINES = 4;
    private static final int MOST_PAIRS = 2;
    private static final int MOST_MEETINGS = 16;
    private static final int MOST_AHEAD = 4;
    private static final int MOST_ROTATION = 8;
    private static final int MOST_TURNS = 99;
    private static final int MOST_GOALS = 99;
    private static final int MOST_SHORT = 15;
    private static final int MOST_GAMES = 20;
    private static final int MOST_WAY = 3;
    private static final int MOST_ODDS_TURNS = 60;
    private static final int MOST_LEAD = 5;

    private final Rink rink;
    private final Rink kept;
    private final Reader reader;
    private final Acts acts;
    private final Ahead ahead;
    private final Rotation known;
    private final Giving giving;
    private final Pull pull;
    private final Games gone;
    private final Speech speech;
    private final int[] keys;
    private boolean isKept;
    private int faultPlace;

    public LastChange() {
        rink = new Rink();
        kept = new Rink();
        reader = new Reader();
        acts = new Acts();
        ahead = new Ahead(rink);
        known = new Rotation(ahead);
        giving = new Giving(rink);
        pull = new Pull();
        gone = new Games(rink, ahead);
        speech = new Speech();
        keys = new int[MOST_MEETINGS];
        isKept = false;
        faultPlace = NONE;
    }

    public int feed(int a, int b, int c, int d, int e) {
        if (!reader.hasRoom()) {
            return NONE;
        }
        reader.append(a);
        reader.append(b);
        reader.append(c);
        reader.append(d);
        reader.append(e);
        return reader.size;
    }

    public int game(int n) throws IllegalArgumentException {
        if (n < 0 || n > reader.size) {
            throw new IllegalArgumentException();
        }
        int found = reader.read(n);
        faultPlace = reader.place;
        if (found == 0) {
            rink.take(reader.told);
            acts.clear();
        }
        return found;
    }

    public int fault() {
        return faultPlace;
    }

    public int count(int what) throws NoSuchElementException {
        switch (what) {
            case 0: return rink.clock;
            case 1: return rink.last;
            case 2: return rink.extra;
            case 3: return acts.size;
            case 4: return reader.size;
            case 5: return meetings();
            default: throw new NoSuchElementException();
        }
    }

    public int team(int team, int what) throws NoSuchElementException {
        Team asked = existing(team);
        switch (what) {
            case 0: return asked.lines;
            case 1: return asked.pairs;
            case 2: return asked.save;
            case 3: return asked.goals;
            case 4: return asked.penalty;
            case 5: return asked.pulled ? 1 : 0;
            case 6: return asked.stays;
            case 7: return (1 << asked.to()) - (1 << asked.from());
            case 8: return asked.allLegs();
            default: throw new NoSuchElementException();
        }
    }

    public int unit(int team, int unit, int what) throws NoSuchElementException {
        Team asked = existing(team);
        if (!asked.has(unit) || what < 0 || what > 7) {
            throw new NoSuchElementException();
        }
        if (what == 6) {
            return asked.power(asked.attack, unit);
        }
        if (what == 7) {
            return asked.power(asked.guard, unit);
        }
        return asked.row(what)[unit];
    }

    public int chance(int team, int own, int other) throws NoSuchElementException {
        if (!existing(team).has(own) || !existing(1 - team).has(other)) {
            throw new NoSuchElementException();
        }
        return rink.likelihood(team, own, other);
    }

    public int meeting(int k, int what) throws NoSuchElementException {
        if (k < 0 || k >= meetings() || k >= keys.length || what < 0 || what > 2) {
            throw new NoSuchElementException();
        }
        sortMeetings();
        int key = keys[k];
        if (what == 2) {
            return -(key >> 6);
        }
        return what == 0 ? (key >> 3) & 7 : key & 7;
    }

    public int rested(int team, int k) throws NoSuchElementException {
        Team asked = existing(team);
        if (!asked.has(k)) {
            throw new NoSuchElementException();
        }
        for (int unit = 0; unit < asked.units(); unit++) {
            int weariness = 15 - asked.legs[unit];
            int weakness = 99 - asked.power(asked.attack, unit);
            insert(keys, unit, (weariness << 10) + (weakness << 3) + unit);
        }
        return keys[k] & 7;
    }

    public int value(int k) throws IllegalArgumentException {
        if (k < 0 || k > MOST_AHEAD) {
            throw new IllegalArgumentException();
        }
        ahead.loadNow();
        return ahead.worth(k);
    }

    public int first(int k) throws IllegalArgumentException {
        refuseUnlessAhead(k);
        ahead.loadNow();
        return ahead.sendFirst(0, k);
    }

    public int reply(int unit, int k) throws NoSuchElementException, IllegalArgumentException {
        if (!rink.of(1 - rink.last).may(unit)) {
            throw new NoSuchElementException();
        }
        refuseUnlessAhead(k);
        ahead.loadNow();
        return ahead.sendReply(0, unit, k);
    }

    public int by(int x, int y, int k) throws NoSuchElementException, IllegalArgumentException {
        if (!rink.may(x, y)) {
            throw new NoSuchElementException();
        }
        refuseUnlessAhead(k);
        ahead.loadNow();
        return ahead.worthOf(x, y, k);
    }

    public int best(int k, int i, int what) throws NoSuchElementException, IllegalArgumentException {
        refuseUnlessAhead(k);
        if (i < 0 || i >= k || what < 0 || what > 2) {
            throw new NoSuchElementException();
        }
        ahead.loadNow();
        return ahead.bestPlay(k, i, what);
    }

    public int cost(int team, int n, int k) throws NoSuchElementException, IllegalArgumentException {
        existing(team);
        if (n < 0 || n > MOST_SHORT) {
            throw new IllegalArgumentException();
        }
        refuseUnlessAhead(k);
        ahead.loadNow();
        int now = ahead.worth(k);
        int home = team == 0 ? n : rink.home.penalty;
        int away = team == 1 ? n : rink.away.penalty;
        ahead.load(rink.last, home, away);
        return ahead.worth(k) - now;
    }

    public int seeing(int k) throws IllegalArgumentException {
        refuseUnlessAhead(k);
        ahead.load(0, rink.home.penalty, rink.away.penalty);
        int seen = ahead.worth(k);
        ahead.load(1, rink.home.penalty, rink.away.penalty);
        return seen - ahead.worth(k);
    }

    public int blind(int k, int what) throws NoSuchElementException, IllegalArgumentException {
        if (what < 0 || what > 1) {
            throw new NoSuchElementException();
        }
        refuseUnlessAhead(k);
        ahead.loadNow();
        return what == 0 ? ahead.homeIsSureOf(k) : ahead.awayHoldsTo(k);
    }

    public int rotation(int figures, int n, int i) throws NoSuchElementException, IllegalArgumentException {
        if (n < 1 || n > MOST_ROTATION || figures < 0) {
            throw new IllegalArgumentException();
        }
        if (!known.tell(figures, n)) {
            return HIDDEN;
        }
        if (i < NONE || i >= n) {
            throw new NoSuchElementException();
        }
        known.solve(n);
        return i == NONE ? known.most : known.chosen[i];
    }

    public int given(int line) throws NoSuchElementException {
        if (line < NONE || line >= rink.home.lines) {
            throw new NoSuchElementException();
        }
        giving.solve();
        return line == NONE ? giving.most : giving.chosen[line];
    }

    public int odds(int x, int y, int t, int d) throws NoSuchElementException, IllegalArgumentException {
        refuseUnlessUnits(x, y);
        if (t < 0 || t > MOST_ODDS_TURNS) {
            throw new IllegalArgumentException();
        }
        refuseUnlessLead(d);
        pull.run(rink, x, y, t);
        return pull.odds[d + MOST_LEAD];
    }

    public int when(int x, int y, int d) throws NoSuchElementException, IllegalArgumentException {
        refuseUnlessUnits(x, y);
        refuseUnlessLead(d);
        pull.run(rink, x, y, MOST_ODDS_TURNS);
        return pull.latest[d + MOST_LEAD];
    }

    public int turn(int x, int y) {
        if (rink.clock < 1 || !rink.may(x, y)) {
            return HIDDEN;
        }
        int edge = rink.edge(x, y);
        acts.keep(rink);
        rink.pass(x, y);
        return edge;
    }

    public int play(int seed, int n, int way, int other) throws IllegalArgumentException {
        refuseUnlessGame(n, way, other);
        acts.keep(rink);
        return gone.run(seed, n, way, other);
    }

    public int games(int seed, int m, int n, int way, int other, int what)
            throws NoSuchElementException, IllegalArgumentException {
        if (what < 0 || what > 3) {
            throw new NoSuchElementException();
        }
        if (m < 1 || m > MOST_GAMES) {
            throw new IllegalArgumentException();
        }
        refuseUnlessGame(n, way, other);
        int sum = 0;
        gone.remember();
        for (int i = 0; i < m; i++) {
            gone.run(seed + i, n, way, other);
            sum += gone.outcome(what);
            gone.restore();
        }
        return sum;
    }

    public int set(int team, int what, int v) throws NoSuchElementException, IllegalArgumentException {
        Team changed = existing(team);
        if (what < 0 || what > 3) {
            throw new NoSuchElementException();
        }
        if (!changed.takes(what, v)) {
            throw new IllegalArgumentException();
        }
        acts.keep(rink);
        return changed.change(what, v);
    }

    public int see(int team) throws NoSuchElementException {
        existing(team);
        int was = rink.last;
        acts.keep(rink);
        rink.last = team;
        return was;
    }

    public int lasts(int team, int unit, boolean rest) throws NoSuchElementException {
        Team asked = existing(team);
        if (!asked.has(unit)) {
            throw new NoSuchElementException();
        }
        int legs = asked.legs[unit];
        return rest ? steps(asked.full[unit] - legs, asked.rests[unit]) : steps(legs, asked.tires[unit]);
    }

    public int say() {
        return speech.tell(rink);
    }

    public int said(int i) {
        return speech.at(i);
    }

    public int undo() {
        return acts.takeBack(rink) ? acts.size : NONE;
    }

    public void image() {
        kept.take(rink);
        isKept = true;
    }

    public boolean back() {
        if (!isKept) {
            return false;
        }
        rink.take(kept);
        acts.clear();
        return true;
    }

    private Team existing(int team) {
        if (team < 0 || team > 1) {
            throw new NoSuchElementException();
        }
        return rink.of(team);
    }

    private static void refuseUnlessAhead(int k) {
        if (k < 1 || k > MOST_AHEAD) {
            throw new IllegalArgumentException();
        }
    }

    private static void refuseUnlessLead(int d) {
        if (d < -MOST_LEAD || d > MOST_LEAD) {
            throw new IllegalArgumentException();
        }
    }

    private static void refuseUnlessGame(int n, int way, int other) {
        if (n < 0 || n > MOST_TURNS || way < 0 || way > MOST_WAY || other < 0 || other > MOST_WAY) {
            throw new IllegalArgumentException();
        }
    }

    private void refuseUnlessUnits(int x, int y) {
        if (!rink.home.has(x) || !rink.away.has(y)) {
            throw new NoSuchElementException();
        }
    }

    private int meetings() {
        return (rink.home.to() - rink.home.from()) * (rink.away.to() - rink.away.from());
    }

    /** One int holds a MEETING, so that its order is the order of the ints. */
    private void sortMeetings() {
        int size = 0;
        for (int x = rink.home.from(); x < rink.home.to(); x++) {
            for (int y = rink.away.from(); y < rink.away.to(); y++) {
                insert(keys, size, -rink.edge(x, y) * 64 + x * 8 + y);
                size++;
            }
        }
    }

    /** The row's first size ints are in order, the least first, and stay so with one more. */
    private static void insert(int[] row, int size, int key) {
        if (size < 0 || size >= row.length) {
            return;
        }
        int at = size;
        while (at > 0 && row[at - 1] > key) {
            row[at] = row[at - 1];
            at--;
        }
        row[at] = key;
    }

    private static int steps(int way, int step) {
        return step < 1 ? 0 : (way + step - 1) / step;
    }

    /** One TEAM: its UNITS in rows, LINES ahead of PAIRS, and all that a game changes of it. */
    private static final class Team {
        static final int STATE = 4 + UNITS;

        int lines;
        int pairs;
        int save;
        int goals;
        int penalty;
        int stays;
        boolean pulled;
        final int[] attack = new int[UNITS];
        final int[] guard = new int[UNITS];
        final int[] full = new int[UNITS];
        final int[] tires = new int[UNITS];
        final int[] rests = new int[UNITS];
        final int[] legs = new int[UNITS];

        /** A TEAM as a new object has it: a LINE of numbers 0 and 1. */
        Team() {
            lines = 1;
            stays = NONE;
            full[0] = 1;
            tires[0] = 1;
            rests[0] = 1;
            legs[0] = 1;
        }

        void clear() {
            lines = 0;
            pairs = 0;
            save = 0;
            goals = 0;
            penalty = 0;
            stays = NONE;
            pulled = false;
        }

        int[] row(int what) {
            switch (what) {
                case 0: return attack;
                case 1: return guard;
                case 2: return full;
                case 3: return tires;
                case 4: return rests;
                default: return legs;
            }
        }

        int units() {
            return lines + pairs;
        }

        boolean has(int unit) {
            return unit >= 0 && unit < lines + pairs;
        }

        /** UNITS that MAY be sent always stand side by side: the first one of them. */
        int firstToSend(int isShortFor, int staysWith) {
            if (staysWith != NONE) {
                return staysWith;
            }
            return isShortFor > 0 && pairs > 0 ? lines : 0;
        }

        /** The one behind the last of them. */
        int endToSend(int isShortFor, int staysWith) {
            if (staysWith != NONE) {
                return staysWith + 1;
            }
            return isShortFor > 0 ? lines + pairs : lines;
        }

        int from() {
            return firstToSend(penalty, stays);
        }

        int to() {
            return endToSend(penalty, stays);
        }

        boolean may(int unit) {
            return unit >= from() && unit < to();
        }

        int power(int[] of, int unit) {
            return full[unit] < 1 ? 0 : of[unit] * legs[unit] / full[unit];
        }

        int allLegs() {
            int sum = 0;
            for (int unit = 0; unit < units(); unit++) {
                sum += legs[unit];
            }
            return sum;
        }

        int legsBehind(int unit, int before, boolean sent) {
            return sent ? Math.max(0, before - tires[unit]) : Math.min(full[unit], before + rests[unit]);
        }

        void pass(int sent) {
            for (int unit = 0; unit < units(); unit++) {
                legs[unit] = legsBehind(unit, legs[unit], unit == sent);
            }
            penalty = Math.max(0, penalty - 1);
            stays = NONE;
        }

        boolean takes(int what, int v) {
            switch (what) {
                case 0: return v >= 0 && v <= MOST_GOALS;
                case 1: return v >= 0 && v <= MOST_SHORT;
                case 2: return v == NONE || has(v);
                default: return v == 0 || v == 1;
            }
        }

        int change(int what, int v) {
            int was;
            switch (what) {
                case 0:
                    was = goals;
                    goals = v;
                    return was;
                case 1:
                    was = penalty;
                    penalty = v;
                    return was;
                case 2:
                    was = stays;
                    stays = v;
                    return was;
                default:
                    was = pulled ? 1 : 0;
                    pulled = v == 1;
                    return was;
            }
        }

        void take(Team from) {
            lines = from.lines;
            pairs = from.pairs;
            save = from.save;
            goals = from.goals;
            penalty = from.penalty;
            stays = from.stays;
            pulled = from.pulled;
            for (int what = 0; what < 6; what++) {
                System.arraycopy(from.row(what), 0, row(what), 0, UNITS);
            }
        }

        void write(int[] row, int at) {
            row[at] = goals;
            row[at + 1] = penalty;
            row[at + 2] = stays;
            row[at + 3] = pulled ? 1 : 0;
            System.arraycopy(legs, 0, row, at + 4, UNITS);
        }

        void read(int[] row, int at) {
            goals = row[at];
            penalty = row[at + 1];
            stays = row[at + 2];
            pulled = row[at + 3] == 1;
            System.arraycopy(row, at + 4, legs, 0, UNITS);
        }
    }

    /** All that there is of a GAME. */
    private static final class Rink {
        static final int STATE = 2 + 2 * Team.STATE;
        private static final int FIRST_EXTRA = 150;
        private static final int MOST_LIKELY = 450;

        final Team home = new Team();
        final Team away = new Team();
        int clock;
        int last;
        int extra = FIRST_EXTRA;

        Team of(int team) {
            return team == 0 ? home : away;
        }

        void clear() {
            home.clear();
            away.clear();
            clock = 0;
            last = 0;
            extra = FIRST_EXTRA;
        }

        boolean may(int x, int y) {
            return home.may(x) && away.may(y);
        }

        /** What a CHANCE begins with, whatever UNITS meet. */
        int base(Team own, Team other) {
            return 100 - (other.pulled ? 0 : other.save) + (own.pulled ? extra : 0);
        }

        static int likely(int base, int lead, boolean isShort, boolean otherIsShort) {
            int likely = Math.max(0, base + 2 * lead);
            if (isShort && !otherIsShort) {
                likely = likely / 2;
            } else if (otherIsShort && !isShort) {
                likely = likely * 2;
            }
            return Math.min(MOST_LIKELY, likely);
        }

        int likelihood(int team, int ownUnit, int otherUnit) {
            Team own = of(team);
            Team other = of(1 - team);
            int lead = own.power(own.attack, ownUnit) - other.power(other.guard, otherUnit);
            return likely(base(own, other), lead, own.penalty > 0, other.penalty > 0);
        }

        int edge(int x, int y) {
            return likelihood(0, x, y) - likelihood(1, y, x);
        }

        void pass(int x, int y) {
            home.pass(x);
            away.pass(y);
            clock = Math.max(0, clock - 1);
        }

        /** A GOAL ends SHORT of the TEAM that lets it in. */
        void score(int team) {
            Team scorer = of(team);
            scorer.goals = Math.min(MOST_GOALS, scorer.goals + 1);
            of(1 - team).penalty = 0;
        }

        void take(Rink from) {
            home.take(from.home);
            away.take(from.away);
            clock = from.clock;
            last = from.last;
            extra = from.extra;
        }

        /** Only what ACTS change goes into a row: the rest stays between two texts. */
        void write(int[] row) {
            if (row.length < STATE) {
                return;
            }
            row[0] = clock;
            row[1] = last;
            home.write(row, 2);
            away.write(row, 2 + Team.STATE);
        }

        void read(int[] row) {
            if (row.length < STATE) {
                return;
            }
            clock = row[0];
            last = row[1];
            home.read(row, 2);
            away.read(row, 2 + Team.STATE);
        }
    }

    /** The tape, and how a text on it is read into a Rink of its own, which a FAULT leaves behind. */
    private static final class Reader {
        private static final int TAPE = 500;
        private static final int FEED = 20;
        /** Above all that a NUMBER may be, so that long rows of figures don't wrap. */
        private static final int TOO_MUCH = 1000;

        private static final int WORD = 0;
        private static final int NUMBER = 1;
        private static final int SEMICOLON = 2;
        private static final int END = 3;
        private static final int OTHER = 4;

        /** What is wanted next: a NUMBER's slot (0 to 7), or one of the four behind them. */
        private static final int CLOCK = 0;
        private static final int SAVE = 1;
        private static final int EXTRA = 2;
        private static final int ATTACK = 3;
        private static final int RESTS = 7;
        private static final int CLOCK_WORD = 8;
        private static final int LAST_OR_SAVE = 9;
        private static final int LINE_END = 10;
        private static final int LINE = 11;
        private static final int[] LEAST = {0, 0, 0, 0, 0, 1, 1, 1};
        private static final int[] MOST = {99, 99, 300, 99, 99, 15, 7, 7};

        private static final int MISPLACED = 1;
        private static final int BAD_NUMBER = 2;
        private static final int TOO_MANY = 3;
        private static final int TOO_FEW = 4;

        final Rink told = new Rink();
        int size;
        int place = NONE;
        private final byte[] tape = new byte[TAPE];
        private int end;
        private int at;
        private int start;
        private int kind;
        private int number;
        private int wanted;
        private int teams;
        private int unit;

        boolean hasRoom() {
            return size + FEED <= TAPE;
        }

        void append(int four) {
            for (int shift = 24; shift >= 0 && size < TAPE; shift -= 8) {
                tape[size] = (byte) (four >> shift);
                size++;
            }
        }

        /** 0, or the FAULT; the tape is empty behind it in either case. */
        int read(int n) {
            told.clear();
            teams = 0;
            unit = 0;
            at = 0;
            end = Math.min(n, size);
            size = 0;
            wanted = CLOCK_WORD;
            place = NONE;
            kind = OTHER;
            int found = 0;
            for (int tokens = 0; tokens <= end && found == 0 && kind != END; tokens++) {
                next();
                found = take();
            }
            if (found != 0) {
                place = start;
            }
            return found;
        }

        private void next() {
            while (at < end && (tape[at] == ' ' || tape[at] == '\n')) {
                at++;
            }
            start = at;
            if (at >= end) {
                kind = END;
            } else if (isLetter(tape[at])) {
                nextWord();
            } else if (isFigure(tape[at])) {
                nextNumber();
            } else {
                kind = tape[at] == ';' ? SEMICOLON : OTHER;
                at++;
            }
        }

        private void nextWord() {
            kind = WORD;
            while (at < end && isLetter(tape[at])) {
                at++;
            }
        }

        private void nextNumber() {
            kind = NUMBER;
            number = 0;
            while (at < end && isFigure(tape[at])) {
                number = Math.min(TOO_MUCH, number * 10 + tape[at] - '0');
                at++;
            }
        }

        private static boolean isLetter(int sign) {
            return sign >= 'a' && sign <= 'z';
        }

        private static boolean isFigure(int sign) {
            return sign >= '0' && sign <= '9';
        }

        private boolean isWord(String word) {
            if (kind != WORD || at - start != word.length()) {
                return false;
            }
            for (int i = 0; i < word.length(); i++) {
                if (tape[start + i] != word.charAt(i)) {
                    return false;
                }
            }
            return true;
        }

        private int take() {
            switch (wanted) {
                case CLOCK_WORD: return isWord("clock") ? want(CLOCK) : MISPLACED;
                case LAST_OR_SAVE: return takeLastOrSave();
                case LINE_END: return kind == SEMICOLON ? want(LINE) : MISPLACED;
                case LINE: return takeLine();
                default: return takeNumber(wanted);
            }
        }

        private int want(int what) {
            wanted = what;
            return 0;
        }

        private int takeLastOrSave() {
            if (isWord("last")) {
                told.last = teams - 1;
                return want(SAVE);
            }
            return takeNumber(SAVE);
        }

        private int takeLine() {
            if (kind == END) {
                return teams < 2 || told.away.lines == 0 ? TOO_FEW : 0;
            }
            if (isWord("extra")) {
                return want(EXTRA);
            }
            if (isWord("team")) {
                return takeTeam();
            }
            if (teams > 0 && isWord("line")) {
                return takeLineUnit(told.of(teams - 1));
            }
            if (teams > 0 && isWord("pair")) {
                return takePairUnit(told.of(teams - 1));
            }
            return MISPLACED;
        }

        private int takeTeam() {
            if (teams == 2) {
                return TOO_MANY;
            }
            if (teams == 1 && told.home.lines == 0) {
                return TOO_FEW;
            }
            teams++;
            return want(LAST_OR_SAVE);
        }

        private int takeLineUnit(Team team) {
            if (team.lines == MOST_LINES || team.pairs > 0) {
                return TOO_MANY;
            }
            unit = team.lines;
            team.lines++;
            return want(ATTACK);
        }

        private int takePairUnit(Team team) {
            if (team.pairs == MOST_PAIRS) {
                return TOO_MANY;
            }
            unit = team.lines + team.pairs;
            team.pairs++;
            return want(ATTACK);
        }

        private int takeNumber(int slot) {
            if (kind != NUMBER || slot < 0 || slot > RESTS) {
                return MISPLACED;
            }
            if (number < LEAST[slot] || number > MOST[slot]) {
                return BAD_NUMBER;
            }
            if (slot >= ATTACK) {
                return takeUnitNumber(slot);
            }
            if (slot == CLOCK) {
                told.clock = number;
            } else if (slot == EXTRA) {
                told.extra = number;
            } else {
                told.of(teams - 1).save = number;
            }
            return want(LINE_END);
        }

        private int takeUnitNumber(int slot) {
            Team team = told.of(teams - 1);
            team.row(slot - ATTACK)[unit] = number;
            team.legs[unit] = team.full[unit];
            return want(slot == RESTS ? LINE_END : slot + 1);
        }
    }

    /** The latest 16 ACTS: of each, all as it was ahead of it. */
    private static final class Acts {
        private static final int MOST = 16;

        private final int[][] rows = new int[MOST][Rink.STATE];
        private int next;
        int size;

        void clear() {
            size = 0;
        }

        void keep(Rink rink) {
            rink.write(rows[next]);
            next = next + 1 < MOST ? next + 1 : 0;
            size = Math.min(MOST, size + 1);
        }

        boolean takeBack(Rink rink) {
            if (size == 0) {
                return false;
            }
            next = next > 0 ? next - 1 : MOST - 1;
            size--;
            rink.read(rows[next]);
            return true;
        }
    }

    /** A TEAM as it would stand behind some TURNS: its LEGS, which UNITS it MAY send, their POWERS. */
    private static final class Side {
        final Team team;
        final int[] legs = new int[UNITS];
        final int[] attack = new int[UNITS];
        final int[] guard = new int[UNITS];
        int penalty;
        int from;
        int to;

        Side(Team of) {
            team = of;
        }

        void load(int isShortFor) {
            penalty = isShortFor;
            System.arraycopy(team.legs, 0, legs, 0, UNITS);
            from = team.firstToSend(penalty, team.stays);
            to = team.endToSend(penalty, team.stays);
            weigh();
        }

        void follow(Side before, int sent) {
            penalty = Math.max(0, before.penalty - 1);
            for (int unit = 0; unit < team.units(); unit++) {
                legs[unit] = team.legsBehind(unit, before.legs[unit], unit == sent);
            }
            from = team.firstToSend(penalty, NONE);
            to = team.endToSend(penalty, NONE);
            weigh();
        }

        /** With LEGS as they are at most: none of its UNITS can do better at this TURN. */
        void freshen() {
            for (int unit = from; unit < to; unit++) {
                attack[unit] = team.attack[unit];
                guard[unit] = team.guard[unit];
            }
        }

        private void weigh() {
            for (int unit = from; unit < to; unit++) {
                int full = team.full[unit];
                if (full > 0) {
                    attack[unit] = team.attack[unit] * legs[unit] / full;
                    guard[unit] = team.guard[unit] * legs[unit] / full;
                }
            }
        }
    }

    /**
     * What could come: both TEAMS as they would stand behind 0, 1, .. TURNS (a level each).
     * Worths here are those for the TEAM that sends first, as that stays the same through all levels.
     */
    private static final class Ahead {
        static final int LEVELS = 1 + MOST_ROTATION;
        /** Beyond all worths, and far enough from the ends of int to count on from there. */
        private static final int NO_WORTH = 1000000;

        private final Rink rink;
        private final Side[] home = new Side[LEVELS];
        private final Side[] away = new Side[LEVELS];
        private final int[] bestFirst = new int[LEVELS];
        private final int[] bestReply = new int[LEVELS];
        private Side[] firsts;
        private Side[] seers;
        private int firstBase;
        private int seerBase;
        private int sign;

        Ahead(Rink from) {
            rink = from;
            for (int level = 0; level < LEVELS; level++) {
                home[level] = new Side(from.home);
                away[level] = new Side(from.away);
            }
            firsts = away;
            seers = home;
            sign = -1;
        }

        void loadNow() {
            load(rink.last, rink.home.penalty, rink.away.penalty);
        }

        void load(int last, int homeShort, int awayShort) {
            boolean homeFirst = last == 1;
            sign = homeFirst ? 1 : -1;
            firsts = homeFirst ? home : away;
            seers = homeFirst ? away : home;
            firstBase = rink.base(firsts[0].team, seers[0].team);
            seerBase = rink.base(seers[0].team, firsts[0].team);
            home[0].load(homeShort);
            away[0].load(awayShort);
        }

        Side firstAt(int level) {
            return firsts[level];
        }

        Side seerAt(int level) {
            return seers[level];
        }

        void step(int level, int sent, int answer) {
            firsts[level + 1].follow(firsts[level], sent);
            seers[level + 1].follow(seers[level], answer);
        }

        int gain(int level, int sent, int answer) {
            Side one = firsts[level];
            Side two = seers[level];
            boolean oneShort = one.penalty > 0;
            boolean twoShort = two.penalty > 0;
            return Rink.likely(firstBase, one.attack[sent] - two.guard[answer], oneShort, twoShort)
                    - Rink.likely(seerBase, two.attack[answer] - one.guard[sent], twoShort, oneShort);
        }

        /**
         * The worth of k TURNS, if it is above low and below high; else some bound beyond the one
         * that it misses: who asks needs no more than that, and much need not be gone through.
         */
        private int firstWorth(int level, int k, int low, int high) {
            if (k < 1 || level + 1 >= LEVELS) {
                return 0;
            }
            int best = -NO_WORTH;
            for (int sent = firsts[level].from; sent < firsts[level].to && best < high; sent++) {
                int worth = seerWorth(level, k, sent, Math.max(low, best), high);
                if (worth > best) {
                    best = worth;
                    bestFirst[level] = sent;
                }
            }
            return best;
        }

        private int seerWorth(int level, int k, int sent, int low, int high) {
            int worst = NO_WORTH;
            if (k > 1) {
                firsts[level + 1].follow(firsts[level], sent);
            }
            for (int answer = seers[level].from; answer < seers[level].to && worst > low; answer++) {
                int worth = gain(level, sent, answer);
                if (k > 1) {
                    seers[level + 1].follow(seers[level], answer);
                    worth += firstWorth(level + 1, k - 1, low - worth, Math.min(high, worst) - worth);
                }
                if (worth < worst) {
                    worst = worth;
                    bestReply[level] = answer;
                }
            }
            return worst;
        }

        int worth(int k) {
            return sign * firstWorth(0, k, -NO_WORTH, NO_WORTH);
        }

        int worthOf(int x, int y, int k) {
            int sent = sign > 0 ? x : y;
            int answer = sign > 0 ? y : x;
            step(0, sent, answer);
            return sign * (gain(0, sent, answer) + firstWorth(1, k - 1, -NO_WORTH, NO_WORTH));
        }

        int sendFirst(int level, int k) {
            firstWorth(level, k, -NO_WORTH, NO_WORTH);
            return bestFirst[level];
        }

        int sendReply(int level, int sent, int k) {
            seerWorth(level, k, sent, -NO_WORTH, NO_WORTH);
            return bestReply[level];
        }

        int bestPlay(int k, int i, int what) {
            int sent = NONE;
            int answer = NONE;
            for (int level = 0; level <= i; level++) {
                if (level > 0) {
                    step(level - 1, sent, answer);
                }
                sent = sendFirst(level, k - level);
                answer = sendReply(level, sent, k - level);
            }
            if (what == 2) {
                return sign * gain(i, sent, answer);
            }
            return (what == 0) == (sign > 0) ? sent : answer;
        }

        int homeIsSureOf(int k) {
            int best = -NO_WORTH;
            for (int x = home[0].from; x < home[0].to; x++) {
                int worst = NO_WORTH;
                for (int y = away[0].from; y < away[0].to && worst > best; y++) {
                    worst = Math.min(worst, worthOf(x, y, k));
                }
                best = Math.max(best, worst);
            }
            return best;
        }

        int awayHoldsTo(int k) {
            int best = NO_WORTH;
            for (int y = away[0].from; y < away[0].to; y++) {
                int worst = -NO_WORTH;
                for (int x = home[0].from; x < home[0].to && worst < best; x++) {
                    worst = Math.max(worst, worthOf(x, y, k));
                }
                best = Math.min(best, worst);
            }
            return best;
        }
    }

    /** TEAM 0's best against a row of TEAM 1 that is known. */
    private static final class Rotation {
        private final Ahead ahead;
        private final int[] told = new int[MOST_ROTATION];
        private final int[] trial = new int[MOST_ROTATION];
        /** What the TURNS from each level on can be worth at most: with fresh LEGS in all of them. */
        private final int[] hope = new int[1 + MOST_ROTATION];
        final int[] chosen = new int[MOST_ROTATION];
        int most;

        Rotation(Ahead with) {
            ahead = with;
        }

        /** Whether the figures are n UNITS that TEAM 1 MAY send one behind the other. */
        boolean tell(int figures, int n) {
            int left = figures;
            for (int i = n - 1; i >= 0; i--) {
                told[i] = left % 10;
                left = left / 10;
            }
            if (left > 0) {
                return false;
            }
            // As if TEAM 1 were LAST: then what is a gain in Ahead is an EDGE.
            ahead.load(1, ahead.rink.home.penalty, ahead.rink.away.penalty);
            for (int level = 0; level < n; level++) {
                Side away = ahead.seerAt(level);
                if (told[level] < away.from || told[level] >= away.to) {
                    return false;
                }
                ahead.step(level, ahead.firstAt(level).from, told[level]);
            }
            return true;
        }

        void solve(int n) {
            hope[n] = 0;
            for (int level = n - 1; level >= 0; level--) {
                hope[level] = hope[level + 1] + mostAt(level);
            }
            most = HIDDEN;
            search(0, n, 0);
        }

        private int mostAt(int level) {
            Side home = ahead.firstAt(level);
            if (level > 0) {
                home.freshen();
            }
            int greatest = HIDDEN;
            for (int x = home.from; x < home.to; x++) {
                greatest = Math.max(greatest, ahead.gain(level, x, told[level]));
            }
            return greatest;
        }

        /** Rows are gone through in their order, so the first one of several is the one that is kept. */
        private void search(int level, int n, int sum) {
            if (sum + hope[level] <= most) {
                return;
            }
            if (level >= n) {
                most = sum;
                System.arraycopy(trial, 0, chosen, 0, n);
                return;
            }
            Side home = ahead.firstAt(level);
            for (int x = home.from; x < home.to; x++) {
                trial[level] = x;
                ahead.firstAt(level + 1).follow(home, x);
                search(level + 1, n, sum + ahead.gain(level, x, told[level]));
            }
        }
    }

    /** LINES given to LINES. */
    private static final class Giving {
        private final Rink rink;
        private final int[] trial = new int[MOST_LINES];
        final int[] chosen = new int[MOST_LINES];
        int most;

        Giving(Rink from) {
            rink = from;
        }

        void solve() {
            most = HIDDEN;
            search(0, 0, 0, Math.max(0, rink.home.lines - rink.away.lines));
        }

        /** Tried in the order that the document asks for, none behind all others: the first one stays. */
        private void search(int line, int used, int sum, int spare) {
            if (line >= rink.home.lines || line >= MOST_LINES) {
                if (sum > most) {
                    most = sum;
                    System.arraycopy(trial, 0, chosen, 0, MOST_LINES);
                }
                return;
            }
            for (int other = 0; other < rink.away.lines; other++) {
                if ((used >> other & 1) == 0) {
                    trial[line] = other;
                    search(line + 1, used | 1 << other, sum + rink.edge(line, other), spare);
                }
            }
            if (spare > 0) {
                trial[line] = NONE;
                search(line + 1, used, sum, spare - 1);
            }
        }
    }

    /** ODDS by leads (a place each, -5 first), and for each lead when PULLED was more at last. */
    private static final class Pull {
        private static final int LEADS = 2 * MOST_LEAD + 1;

        final int[] odds = new int[LEADS];
        final int[] latest = new int[LEADS];
        private final int[] before = new int[LEADS];

        void run(Rink rink, int x, int y, int turns) {
            boolean was = rink.home.pulled;
            rink.home.pulled = false;
            int in = rink.likelihood(0, x, y);
            int against = rink.likelihood(1, y, x);
            rink.home.pulled = true;
            int out = rink.likelihood(0, x, y);
            int againstOut = rink.likelihood(1, y, x);
            rink.home.pulled = was;
            begin();
            for (int t = 1; t <= turns; t++) {
                System.arraycopy(odds, 0, before, 0, LEADS);
                for (int lead = 0; lead < LEADS; lead++) {
                    int stay = mix(lead, in, against);
                    int go = mix(lead, out, againstOut);
                    odds[lead] = Math.max(stay, go);
                    if (go > stay) {
                        latest[lead] = t;
                    }
                }
            }
        }

        private void begin() {
            for (int lead = 0; lead < LEADS; lead++) {
                latest[lead] = NONE;
                odds[lead] = lead > MOST_LEAD ? 1000000 : lead == MOST_LEAD ? 500000 : 0;
            }
        }

        private int mix(int lead, int own, int other) {
            int more = before[Math.min(LEADS - 1, lead + 1)];
            int less = before[Math.max(0, lead - 1)];
            return (own * more + other * less + (1000 - own - other) * before[lead]) / 1000;
        }
    }

    /** GAMES gone through by draws and ways of sending. */
    private static final class Games {
        private final Rink rink;
        private final Ahead ahead;
        private final int[] now = new int[Rink.STATE];
        private int drawn;
        private int homeSent;
        private int awaySent;

        Games(Rink on, Ahead with) {
            rink = on;
            ahead = with;
        }

        void remember() {
            rink.write(now);
        }

        void restore() {
            rink.read(now);
        }

        int outcome(int what) {
            int home = rink.home.goals;
            int away = rink.away.goals;
            switch (what) {
                case 0: return home > away ? 1 : 0;
                case 1: return home == away ? 1 : 0;
                case 2: return home;
                default: return away;
            }
        }

        int run(int seed, int n, int way, int other) {
            int turns = Math.min(n, rink.clock);
            drawn = seed;
            homeSent = NONE;
            awaySent = NONE;
            for (int i = 0; i < turns; i++) {
                ahead.loadNow();
                if (rink.last == 1) {
                    homeSent = send(rink.home, way, homeSent, NONE);
                    awaySent = send(rink.away, other, awaySent, homeSent);
                } else {
                    awaySent = send(rink.away, other, awaySent, NONE);
                    homeSent = send(rink.home, way, homeSent, awaySent);
                }
                shoot();
                rink.pass(homeSent, awaySent);
            }
            return turns;
        }

        private int send(Team team, int way, int latest, int seen) {
            if (way == 0) {
                return freshest(team);
            }
            if (way == 1) {
                return nextBehind(team, latest);
            }
            // The greatest EDGE of WAY 2 is what FIRST and REPLY by one TURN go for.
            int k = way == 2 ? 1 : Math.min(2, rink.clock);
            return seen == NONE ? ahead.sendFirst(0, k) : ahead.sendReply(0, seen, k);
        }

        private int freshest(Team team) {
            int chosen = team.from();
            for (int unit = chosen + 1; unit < team.to(); unit++) {
                if (team.legs[unit] > team.legs[chosen]) {
                    chosen = unit;
                }
            }
            return chosen;
        }

        private int nextBehind(Team team, int latest) {
            int next = Math.max(team.from(), latest + 1);
            return next < team.to() ? next : team.from();
        }

        private void shoot() {
            int home = rink.likelihood(0, homeSent, awaySent);
            int away = rink.likelihood(1, awaySent, homeSent);
            drawn = drawn * 1103515245 + 12345;
            int draw = (drawn >> 16 & 32767) % 1000;
            if (draw < home) {
                rink.score(0);
            } else if (draw < home + away) {
                rink.score(1);
            }
        }
    }

    /** What was SAID, byte by byte. */
    private static final class Speech {
        /** Two TEAMS of six UNITS with all signs and two figures everywhere take 55. */
        private static final int MOST = 64;

        private final byte[] bytes = new byte[MOST];
        private int size;

        int at(int i) {
            return i < 0 || i >= size ? NONE : bytes[i];
        }

        int tell(Rink rink) {
            size = 0;
            tellTeam(rink.home, rink.last == 0);
            put('/');
            tellTeam(rink.away, rink.last == 1);
            put('@');
            putNumber(rink.clock);
            return size;
        }

        private void tellTeam(Team team, boolean isLast) {
            putNumber(team.goals);
            for (int unit = 0; unit < team.units(); unit++) {
                put(unit < team.lines ? 'l' : 'p');
                putNumber(team.legs[unit]);
                if (team.stays == unit) {
                    put('.');
                }
            }
            if (team.penalty > 0) {
                put('+');
                putNumber(team.penalty);
            }
            if (team.pulled) {
                put('^');
            }
            if (isLast) {
                put('*');
            }
        }

        private void putNumber(int number) {
            if (number >= 10) {
                put('0' + number / 10);
            }
            put('0' + number % 10);
        }

        private void put(int sign) {
            if (size < MOST) {
                bytes[size] = (byte) sign;
                size++;
            }
        }
    }
}
