/**
 * One lamp goes round a village. What each call answers stands in ../shared/DOC.md; words in
 * capitals are that document's terms. A set of HOUSES or NEEDS is an int, a bit for each number.
 */
public final class LampRound {
    public static final int NONE = -1;

    private static final int MOST_HOUSES = 10;
    private static final int MOST_NEEDS = 10;
    private static final int MOST_PATHS = 40;
    private static final int MOST_LINES = 16;
    private static final int MOST_OPEN = 8;
    private static final int MOST_AGAIN = 4;
    private static final int MOST_ROUND = 200;
    private static final int MOST_BOOK = 150;
    private static final int BOOK_WIDTH = 6;
    private static final int MOST_CLUES = 8;
    private static final int MOST_SIGNS = 400;
    private static final int FEED_SIGNS = 20;
    private static final int MOST_UNDO = 6;
    private static final int LAST_NIGHT = 9999;
    private static final int MOST_SNOW = 9;
    private static final int SNOWS = 10;
    private static final int MOST_OWED = 99;
    private static final int MOST_BURNT = 99;
    private static final int MOST_PASSED = 60;
    private static final int MOST_RUN = 99;
    private static final int MOST_PLAN = 10;
    private static final int MOST_MORE = 9999;
    private static final int MOST_SURE = 9;
    private static final int MOST_WAYS = 10;
    private static final int SIGHT = 5;
    private static final int MILLION = 1000000;
    private static final int THOUSAND = 1000;
    private static final int UNREACHED_FAR = 99;

    private static final int NO_HOUSE_SUCH = NONE - 999999;
    private static final int NO_NEED_SUCH = NONE - 1;
    private static final int NO_LOOK_SUCH = NONE - 999;

    private static final int TURNS = 0;
    private static final int BURNING = 1;
    private static final int PATHS = 2;
    private static final int NEEDS = 3;
    private static final int ROUND = 4;

    private static final int CANT_STAND = 1;
    private static final int BAD_NUMBER = 2;
    private static final int TOO_MANY = 3;
    private static final int TOO_LONG = 4;

    private static final int NOTHING = 0;
    private static final int END = 0;
    private static final int NUMBER = 1;
    private static final int WRONG = 2;
    /** The first KEYWORD of a text's words has this kind, the others follow; signs are their own kinds. */
    private static final int WORDS = 256;
    private static final String SIGNS = ";+-*/()<=>";

    private static final String TURN_WORDS =
        "turn when or and not house owed waited snow oil season people needs far bid";
    private static final String BURN_WORDS =
        "burn when or and not house owed waited snow oil season people needs";
    private static final String PATH_WORDS = "path to in until";
    private static final String NEED_WORDS = "need birth read mend bride at from to worth";
    private static final String ROUND_WORDS = "go stay again";

    private static final int LINE_WORD = WORDS;
    private static final int WHEN_WORD = WORDS + 1;
    private static final int OR_WORD = WORDS + 2;
    private static final int AND_WORD = WORDS + 3;
    private static final int NOT_WORD = WORDS + 4;
    private static final int FIRST_READING = WORDS + 5;

    private static final int PATH_WORD = WORDS;
    private static final int PATH_TO_WORD = WORDS + 1;
    private static final int PATH_IN_WORD = WORDS + 2;
    private static final int UNTIL_WORD = WORDS + 3;

    private static final int NEED_WORD = WORDS;
    private static final int BIRTH_WORD = WORDS + 1;
    private static final int BRIDE_WORD = WORDS + 4;
    private static final int AT_WORD = WORDS + 5;
    private static final int FROM_WORD = WORDS + 6;
    private static final int NEED_TO_WORD = WORDS + 7;
    private static final int WORTH_WORD = WORDS + 8;

    private static final int GO_WORD = WORDS;
    private static final int STAY_WORD = WORDS + 1;
    private static final int AGAIN_WORD = WORDS + 2;

    private static final int BRIDE = 3;

    private static final int READINGS = 10;
    private static final int WAITED = 2;

    /** The bounds of what set() tells, by its what. */
    private static final int[] LEAST_SET = {0, 0, 0, 1, 1, 0, 1, 0, 0, 0, 0};
    private static final int[] MOST_SET = {9, 1000, 99, 99, 99, 9, 20, 999, 99, 99, 9999};
    private static final int SET_LAMP = 5;

    /** A way of one in a plan's cost: above every row of ten HOUSES read as a number. */
    private static final long WAY = 10000000000L;

    private final Village village;
    private Village kept;
    private final Tape tape;
    private final Law draftLaw;
    private final Paths draftPaths;
    private final Needs draftNeeds;
    private final Round draftRound;
    private final Now thought;
    private final Now[] past;
    private int oldest;
    private int undoable;
    private Planner planner;
    private final Trail trail;

    public LampRound() {
        village = new Village();
        tape = new Tape();
        draftLaw = new Law();
        draftPaths = new Paths();
        draftNeeds = new Needs();
        draftRound = new Round();
        thought = new Now();
        trail = new Trail();
        past = new Now[MOST_UNDO];
        for (int i = 0; i < MOST_UNDO; i++) {
            past[i] = new Now();
        }
    }

    public int state(int v) {
        int was = village.now.draws;
        village.now.draws = v;
        forgetNights();
        return was;
    }

    public int house(int place, int people, int oil) {
        Houses houses = village.houses;
        if (people < 1 || people > 20 || oil < 0 || oil > 999 || !houses.isFree(place)) {
            return NONE;
        }
        if (houses.count >= MOST_HOUSES) {
            return NONE;
        }
        int number = houses.count;
        houses.place[number] = place;
        houses.people[number] = people;
        village.now.oil[number] = oil;
        houses.count = number + 1;
        if (number == 0) {
            village.now.lamp = 0;
        }
        forgetNights();
        return number;
    }

    public boolean set(int what, int who, int v) {
        if (what < 0 || what >= LEAST_SET.length || what >= MOST_SET.length) {
            return false;
        }
        if (v < LEAST_SET[what] || v > MOST_SET[what]) {
            return false;
        }
        if (what == SET_LAMP && !village.houses.has(v)) {
            return false;
        }
        if (what > SET_LAMP && !village.houses.has(who)) {
            return false;
        }
        if (what > SET_LAMP) {
            village.tellOfHouse(what, who, v);
        } else {
            village.tellOfAll(what, v);
        }
        forgetNights();
        return true;
    }

    public boolean friends(int a, int b, boolean are) {
        Houses houses = village.houses;
        if (!houses.has(a) || !houses.has(b) || a == b) {
            return false;
        }
        houses.befriend(a, b, are);
        houses.befriend(b, a, are);
        forgetNights();
        return true;
    }

    public int feed(int a, int b, int c, int d, int e) {
        if (tape.size + FEED_SIGNS > MOST_SIGNS) {
            return NONE;
        }
        tape.append(a);
        tape.append(b);
        tape.append(c);
        tape.append(d);
        tape.append(e);
        return tape.size;
    }

    public boolean end(int n) {
        if (n < 0 || n > tape.size) {
            return false;
        }
        tape.size = n;
        return true;
    }

    public int text(int k) {
        int houses = village.houses.count;
        tape.open(k);
        switch (k) {
            case TURNS:
            case BURNING:
                draftLaw.read(tape);
                break;
            case PATHS:
                draftPaths.read(tape, houses);
                break;
            case NEEDS:
                draftNeeds.read(tape, houses);
                break;
            case ROUND:
                draftRound.read(tape, houses);
                break;
            default:
                break;
        }
        tape.size = 0;
        return tape.fault == 0 ? takeDraft(k) : NONE;
    }

    /** What was read without a FAULT is told. */
    private int takeDraft(int k) {
        switch (k) {
            case TURNS:
                village.turns.take(draftLaw);
                return draftLaw.lines;
            case BURNING:
                village.burning.take(draftLaw);
                return draftLaw.lines;
            case PATHS:
                village.paths.take(draftPaths);
                forgetNights();
                return draftPaths.count;
            case NEEDS:
                village.needs.take(draftNeeds);
                village.now.forgetNeeds();
                forgetNights();
                return draftNeeds.count;
            case ROUND:
                village.round.take(draftRound);
                village.now.gone = 0;
                forgetNights();
                return draftRound.size;
            default:
                return NONE;
        }
    }

    public int fault(int what) {
        if (what == 0) {
            return tape.fault;
        }
        return what == 1 ? tape.faultPlace : NONE;
    }

    public int nights(int n) {
        if (n < 1 || n > MOST_PASSED || village.houses.count == 0 || village.now.night + n > LAST_NIGHT) {
            return NONE;
        }
        int lit = 0;
        for (int i = 0; i < n; i++) {
            if (n - i <= MOST_UNDO) {
                keepNight();
            }
            if (village.passNight(village.now, true)) {
                lit++;
            }
        }
        forgetPlan();
        return lit;
    }

    private void keepNight() {
        Now slot = past[(oldest + undoable) % MOST_UNDO];
        if (slot != null) {
            slot.take(village.now);
        }
        if (undoable < MOST_UNDO) {
            undoable++;
        } else {
            oldest = (oldest + 1) % MOST_UNDO;
        }
    }

    private void forgetNights() {
        undoable = 0;
        oldest = 0;
        forgetPlan();
    }

    private void forgetPlan() {
        if (planner != null) {
            planner.planned = 0;
        }
    }

    public int of(int house, int what) {
        if (!village.houses.has(house)) {
            return NO_HOUSE_SUCH;
        }
        Now now = village.now;
        switch (what) {
            case 0:
                return village.houses.place[house];
            case 1:
                return village.houses.people[house];
            case 2:
                return now.oil[house];
            case 3:
                return now.owed[house];
            case 4:
                return now.had[house];
            case 5:
                return now.last[house];
            case 6:
                return village.houses.bid[house];
            case 7:
                return village.houses.says[house];
            case 8:
                return village.turnsOf(now, house);
            case 9:
                return village.burningOf(now, house);
            case 10:
                return village.houses.friendSet[house];
            case 11:
                return village.reachedSet(house);
            case 12:
                return village.houses.enviedBy(house, now.had, village.margin);
            case 13:
                return village.houses.seenBy(house);
            default:
                return NO_HOUSE_SUCH;
        }
    }

    public int far(int a, int b) {
        if (!village.houses.has(a) || !village.houses.has(b)) {
            return NONE;
        }
        return village.paths.apart(a, b, village.now.snow);
    }

    public int need(int i, int what) {
        Needs needs = village.needs;
        if (i < 0 || i >= needs.count || i >= MOST_NEEDS) {
            return NO_NEED_SUCH;
        }
        switch (what) {
            case 0:
                return needs.kind[i];
            case 1:
                return needs.at[i];
            case 2:
                return needs.from[i];
            case 3:
                return needs.to[i];
            case 4:
                return needs.worth[i];
            case 5:
                return village.now.done[i];
            case 6:
                return (village.now.spoilt >> i) & 1;
            case 7:
                return needs.isOpen(i, village.now) ? 1 : 0;
            default:
                return NO_NEED_SUCH;
        }
    }

    public int book(int i, int what) {
        if (i < 0 || i >= village.now.lines || i >= MOST_BOOK || what < 0 || what >= BOOK_WIDTH) {
            return NONE;
        }
        return village.book[i * BOOK_WIDTH + what];
    }

    public int run(int n, int what) {
        if (n < 1 || n > MOST_RUN || what < 0 || what > 3 || village.houses.count == 0) {
            return NONE;
        }
        thought.take(village.now);
        int before = thought.spoilt;
        int dark = 0;
        int first = NONE;
        for (int i = 0; i < n; i++) {
            if (!village.passNight(thought, false)) {
                dark++;
            }
            if (first == NONE) {
                first = least(thought.spoilt & ~before);
            }
        }
        switch (what) {
            case 0:
                return thought.lamp;
            case 1:
                return dark;
            case 2:
                return thought.spoilt & ~before;
            default:
                return first;
        }
    }

    private static int least(int set) {
        for (int i = 0; i < MOST_NEEDS; i++) {
            if (((set >> i) & 1) == 1) {
                return i;
            }
        }
        return NONE;
    }

    public int plan(int n, int what) {
        boolean known = what == 0 || what == 1 || (what >= 10 && what - 10 < n);
        if (n < 1 || n > MOST_PLAN || !known || village.houses.count == 0) {
            return NONE;
        }
        if (planner == null) {
            planner = new Planner();
        }
        if (planner.planned != n) {
            planner.search(village, n);
        }
        if (what == 0) {
            return planner.mostWorth;
        }
        return what == 1 ? planner.way() : planner.stop(what - 10);
    }

    public int mend(int house) {
        if (house != NONE && !village.houses.has(house)) {
            return NONE;
        }
        int[] had = village.now.had;
        if (!village.houses.canMend(had, village.margin)) {
            return NONE;
        }
        if (house != NONE) {
            return village.houses.mended[house] - had[house];
        }
        int all = 0;
        for (int h = 0; h < village.houses.count; h++) {
            all += village.houses.mended[h] - had[h];
        }
        return all;
    }

    public int rooms(int what) {
        if (what != 0 && (what < 10 || !village.houses.has(what - 10))) {
            return NONE;
        }
        int most = village.houses.pairUp();
        return what == 0 ? most : village.houses.partner[what - 10];
    }

    public int sale(int what) {
        if (what != 0 && what != 1) {
            return NONE;
        }
        int winner = village.houses.highestBid(NONE);
        if (winner == NONE || what == 0) {
            return winner;
        }
        int second = village.houses.highestBid(winner);
        return second == NONE ? 0 : village.houses.bid[second];
    }

    public int liars() {
        int set = 0;
        for (int h = 0; h < village.houses.count && h < MOST_HOUSES; h++) {
            if (village.houses.says[h] != village.now.had[h]) {
                set |= 1 << h;
            }
        }
        return set;
    }

    public int sure(int house, int goal, int k) {
        if (!village.houses.has(house) || !village.houses.has(goal) || k < 1 || k > MOST_SURE) {
            return NONE;
        }
        village.weighReaching(goal, k);
        return village.likely[house];
    }

    public int best(int goal, int k) {
        if (!village.houses.has(goal) || k < 1 || k > MOST_SURE) {
            return NONE;
        }
        // Asked ahead of the weighing, which measures FAR by other SNOWS.
        int reached = village.reachedSet(village.now.lamp);
        village.weighReaching(goal, k);
        int surest = NONE;
        for (int h = 0; h < village.houses.count && h < MOST_HOUSES; h++) {
            boolean better = surest == NONE || village.likely[h] > village.likely[surest];
            if (((reached >> h) & 1) == 1 && better) {
                surest = h;
            }
        }
        return surest;
    }

    public int clue(int night, int set) {
        Clues clues = village.clues;
        if (night == NONE) {
            clues.count = 0;
            return 0;
        }
        boolean ofHouses = set != 0 && (set & ~village.houses.all()) == 0;
        if (night < 0 || night >= MOST_WAYS || !ofHouses || clues.count >= MOST_CLUES) {
            return NONE;
        }
        clues.night[clues.count] = night;
        clues.set[clues.count] = set;
        clues.count++;
        return clues.count;
    }

    public long ways(int n) {
        if (n < 1 || n > MOST_WAYS) {
            return NONE;
        }
        return trail.follow(village, n);
    }

    public int been(int n, int night) {
        if (n < 1 || n > MOST_WAYS || night < 0 || night >= n) {
            return NONE;
        }
        trail.follow(village, n);
        int set = 0;
        for (int h = 0; h < village.houses.count; h++) {
            if (trail.through(night, h) > 0) {
                set |= 1 << h;
            }
        }
        return set;
    }

    public int ask(int n, int what) {
        if (n < 1 || n > MOST_WAYS || what < 0 || what > 1) {
            return NONE;
        }
        long all = trail.follow(village, n);
        if (all == 0) {
            return NONE;
        }
        int question = trail.question(all, n, village.houses.count);
        return what == 0 ? question / MOST_HOUSES : question % MOST_HOUSES;
    }

    public boolean undo() {
        if (undoable <= 0) {
            return false;
        }
        undoable--;
        Now slot = past[(oldest + undoable) % MOST_UNDO];
        if (slot != null) {
            village.now.take(slot);
        }
        forgetPlan();
        return true;
    }

    public boolean image(boolean taken) {
        if (taken) {
            if (kept == null) {
                kept = new Village();
            }
            kept.take(village);
            return true;
        }
        if (kept == null) {
            return false;
        }
        village.take(kept);
        forgetNights();
        return true;
    }

    public int look(int what) {
        Now now = village.now;
        switch (what) {
            case 0:
                return village.houses.count;
            case 1:
                return now.lamp;
            case 2:
                return now.night;
            case 3:
                return now.lines;
            case 4:
                return now.draws;
            case 5:
                return village.needs.count;
            case 6:
                return village.paths.count;
            case 7:
                return village.round.size - now.gone;
            case 8:
                return village.turns.lines;
            case 9:
                return village.burning.lines;
            case 10:
                return village.clues.count;
            case 11:
                return undoable;
            case 20:
                return now.snow;
            case 21:
                return village.flakes;
            case 22:
                return village.margin;
            case 23:
                return village.dusk;
            case 24:
                return village.due;
            default:
                return NO_LOOK_SUCH;
        }
    }

    /** What a NIGHT changes, apart from the rest so that it can be kept, thought on and gone back to. */
    static final class Now {
        final int[] oil = new int[MOST_HOUSES];
        final int[] owed = new int[MOST_HOUSES];
        final int[] had = new int[MOST_HOUSES];
        final int[] last = new int[MOST_HOUSES];
        final int[] done = new int[MOST_NEEDS];
        int spoilt;
        int lamp = NONE;
        int night;
        int snow;
        int draws;
        /** NIGHTS of A ROUND that have gone by. */
        int gone;
        /** Lines of THE BOOK. */
        int lines;

        Now() {
            for (int h = 0; h < MOST_HOUSES; h++) {
                last[h] = NONE;
            }
            for (int i = 0; i < MOST_NEEDS; i++) {
                done[i] = NONE;
            }
        }

        void take(Now from) {
            System.arraycopy(from.oil, 0, oil, 0, MOST_HOUSES);
            System.arraycopy(from.owed, 0, owed, 0, MOST_HOUSES);
            System.arraycopy(from.had, 0, had, 0, MOST_HOUSES);
            System.arraycopy(from.last, 0, last, 0, MOST_HOUSES);
            System.arraycopy(from.done, 0, done, 0, MOST_NEEDS);
            spoilt = from.spoilt;
            lamp = from.lamp;
            night = from.night;
            snow = from.snow;
            draws = from.draws;
            gone = from.gone;
            lines = from.lines;
        }

        void forgetNeeds() {
            for (int i = 0; i < MOST_NEEDS; i++) {
                done[i] = NONE;
            }
            spoilt = 0;
        }

        /** LAST of none is -1, so that the NIGHTS since then are NIGHT and 1. */
        int waited(int h) {
            return night - last[h];
        }

        boolean wasLitAhead(int h) {
            return last[h] != NONE && last[h] == night - 1;
        }

        int draw(int m) {
            draws = 1664525 * draws + 1013904223;
            return m > 0 ? (draws >>> 8) % m : 0;
        }
    }

    /** What is told of HOUSES, and what follows from that and from HAD alone. */
    static final class Houses {
        final int[] place = new int[MOST_HOUSES];
        final int[] people = new int[MOST_HOUSES];
        final int[] bid = new int[MOST_HOUSES];
        final int[] says = new int[MOST_HOUSES];
        final int[] friendSet = new int[MOST_HOUSES];
        int count;
        /** What canMend() found: the least HAD of each. */
        final int[] mended = new int[MOST_HOUSES];
        /** What pairUp() found: with whom each one is. */
        final int[] partner = new int[MOST_HOUSES];
        /** The most pairs within each set of HOUSES; made by the first pairUp(). */
        private int[] pairs;

        void take(Houses from) {
            System.arraycopy(from.place, 0, place, 0, MOST_HOUSES);
            System.arraycopy(from.people, 0, people, 0, MOST_HOUSES);
            System.arraycopy(from.bid, 0, bid, 0, MOST_HOUSES);
            System.arraycopy(from.says, 0, says, 0, MOST_HOUSES);
            System.arraycopy(from.friendSet, 0, friendSet, 0, MOST_HOUSES);
            count = from.count;
        }

        boolean has(int h) {
            return h >= 0 && h < count && h < MOST_HOUSES;
        }

        int all() {
            return (1 << count) - 1;
        }

        boolean isFree(int where) {
            if (where < 0 || where > 63) {
                return false;
            }
            for (int h = 0; h < count; h++) {
                if (place[h] == where) {
                    return false;
                }
            }
            return true;
        }

        void befriend(int a, int b, boolean are) {
            friendSet[a] = are ? friendSet[a] | (1 << b) : friendSet[a] & ~(1 << b);
        }

        int enviedBy(int a, int[] had, int margin) {
            int set = 0;
            for (int b = 0; b < count; b++) {
                if (had[b] * people[a] > (had[a] + margin) * people[b]) {
                    set |= 1 << b;
                }
            }
            return set;
        }

        /**
         * Raises what is too low until nothing is: each step is forced, so the result is the least.
         * A pass raises by one at least, and all could rest within one share of PEOPLE above the
         * first pass, so the passes are far fewer than their bound.
         */
        boolean canMend(int[] had, int margin) {
            System.arraycopy(had, 0, mended, 0, MOST_HOUSES);
            boolean raised = true;
            for (int pass = 0; pass < 10000 && raised; pass++) {
                raised = false;
                for (int a = 0; a < count; a++) {
                    int least = leastUnenvying(a, margin);
                    if (mended[a] < least) {
                        mended[a] = least;
                        raised = true;
                    }
                    if (mended[a] - had[a] > MOST_MORE) {
                        return false;
                    }
                }
            }
            return true;
        }

        private int leastUnenvying(int a, int margin) {
            int least = 0;
            for (int b = 0; b < count; b++) {
                int share = people[b];
                if (share > 0) {
                    least = Math.max(least, (mended[b] * people[a] + share - 1) / share - margin);
                }
            }
            return least;
        }

        /** Finds the first way of the most pairs, and answers how many they are. */
        int pairUp() {
            countPairs();
            int left = all();
            for (int h = 0; h < count; h++) {
                if (((left >> h) & 1) == 1) {
                    int other = firstPartner(h, left);
                    partner[h] = other;
                    left &= ~(1 << h);
                    if (other != NONE) {
                        partner[other] = h;
                        left &= ~(1 << other);
                    }
                }
            }
            return pairsIn(all());
        }

        private int firstPartner(int h, int left) {
            for (int other = 0; other < count; other++) {
                boolean may = ((left & friendSet[h]) >> other & 1) == 1;
                if (may && pairsIn(left & ~(1 << h | 1 << other)) + 1 == pairsIn(left)) {
                    return other;
                }
            }
            return NONE;
        }

        private void countPairs() {
            if (pairs == null) {
                pairs = new int[1 << MOST_HOUSES];
            }
            for (int h = 0; h < count; h++) {
                for (int rest = 0; rest < 1 << h; rest++) {
                    pairs[rest | 1 << h] = mostPairs(h, rest);
                }
            }
        }

        private int mostPairs(int h, int rest) {
            int most = pairsIn(rest);
            int choice = rest & friendSet[h];
            for (int other = 0; other < h; other++) {
                if (((choice >> other) & 1) == 1) {
                    most = Math.max(most, pairsIn(rest & ~(1 << other)) + 1);
                }
            }
            return most;
        }

        private int pairsIn(int set) {
            return pairs != null && set > 0 && set < pairs.length ? pairs[set] : 0;
        }

        int highestBid(int without) {
            int highest = NONE;
            for (int h = 0; h < count; h++) {
                boolean higher = bid[h] > (highest == NONE ? 0 : bid[highest]);
                if (h != without && higher) {
                    highest = h;
                }
            }
            return highest;
        }

        int seenBy(int a) {
            int set = 0;
            for (int b = 0; b < count; b++) {
                if (b != a && sees(place[a], place[b])) {
                    set |= 1 << b;
                }
            }
            return set;
        }

        private boolean sees(int from, int to) {
            int apart = Math.abs((from & 7) - (to & 7)) + Math.abs((from >> 3) - (to >> 3));
            if (apart > SIGHT) {
                return false;
            }
            for (int h = 0; h < count; h++) {
                if (isBetween(from, to, place[h])) {
                    return false;
                }
            }
            return true;
        }

        private static boolean isBetween(int from, int to, int third) {
            int alongX = (to & 7) - (from & 7);
            int alongY = (to >> 3) - (from >> 3);
            int x = (third & 7) - (from & 7);
            int y = (third >> 3) - (from >> 3);
            // How far along the line it is, in parts of the line's own length squared.
            int along = alongX * x + alongY * y;
            boolean inside = along > 0 && along < alongX * alongX + alongY * alongY;
            return inside && alongX * y == alongY * x;
        }
    }

    /** PATHS, and FAR by them. */
    static final class Paths {
        final int[] from = new int[MOST_PATHS];
        final int[] to = new int[MOST_PATHS];
        final int[] length = new int[MOST_PATHS];
        final int[] until = new int[MOST_PATHS];
        int count;
        /** FAR, a row for each HOUSE that it is measured from. */
        private final int[] measured = new int[MOST_HOUSES * MOST_HOUSES];
        /** The SNOW by which each row was measured, or NONE. */
        private final int[] measuredIn = new int[MOST_HOUSES];

        Paths() {
            for (int h = 0; h < MOST_HOUSES; h++) {
                measuredIn[h] = NONE;
            }
        }

        void take(Paths other) {
            System.arraycopy(other.from, 0, from, 0, MOST_PATHS);
            System.arraycopy(other.to, 0, to, 0, MOST_PATHS);
            System.arraycopy(other.length, 0, length, 0, MOST_PATHS);
            System.arraycopy(other.until, 0, until, 0, MOST_PATHS);
            count = other.count;
            for (int h = 0; h < MOST_HOUSES; h++) {
                measuredIn[h] = NONE;
            }
        }

        void read(Tape tape, int houses) {
            count = 0;
            for (int i = 0; i <= MOST_SIGNS && tape.goesOn(); i++) {
                if (count >= MOST_PATHS && tape.kind == PATH_WORD) {
                    tape.refuse(TOO_MANY);
                }
                readPath(tape, houses);
            }
        }

        private void readPath(Tape tape, int houses) {
            tape.pass(PATH_WORD);
            int a = tape.number(0, houses - 1);
            tape.pass(PATH_TO_WORD);
            int b = tape.number(0, houses - 1);
            tape.pass(PATH_IN_WORD);
            int steps = tape.number(1, 99);
            int snow = MOST_SNOW;
            if (tape.kind == UNTIL_WORD) {
                tape.step();
                snow = tape.number(0, MOST_SNOW);
            }
            tape.pass(';');
            if (tape.fault == 0 && count < MOST_PATHS) {
                from[count] = a;
                to[count] = b;
                length[count] = steps;
                until[count] = snow;
                count++;
            }
        }

        /** FAR of two HOUSES in that SNOW, or NONE. */
        int apart(int a, int b, int snow) {
            if (a < 0 || a >= MOST_HOUSES || b < 0 || b >= MOST_HOUSES) {
                return NONE;
            }
            if (measuredIn[a] != snow) {
                measureFrom(a, snow);
            }
            return measured[a * MOST_HOUSES + b];
        }

        private void measureFrom(int a, int snow) {
            int row = a * MOST_HOUSES;
            for (int h = 0; h < MOST_HOUSES; h++) {
                measured[row + h] = NONE;
            }
            measured[row + a] = 0;
            boolean shorter = true;
            for (int pass = 0; pass < MOST_HOUSES && shorter; pass++) {
                shorter = false;
                for (int i = 0; i < count; i++) {
                    if (snow <= until[i]) {
                        boolean there = shorten(row + from[i], row + to[i], length[i]);
                        boolean back = shorten(row + to[i], row + from[i], length[i]);
                        shorter = shorter || there || back;
                    }
                }
            }
            measuredIn[a] = snow;
        }

        private boolean shorten(int start, int goal, int steps) {
            if (measured[start] == NONE) {
                return false;
            }
            int sum = measured[start] + steps;
            if (measured[goal] != NONE && measured[goal] <= sum) {
                return false;
            }
            measured[goal] = sum;
            return true;
        }
    }

    /** NEEDS as they are told. */
    static final class Needs {
        final int[] kind = new int[MOST_NEEDS];
        final int[] at = new int[MOST_NEEDS];
        final int[] from = new int[MOST_NEEDS];
        final int[] to = new int[MOST_NEEDS];
        final int[] worth = new int[MOST_NEEDS];
        int count;

        void take(Needs other) {
            System.arraycopy(other.kind, 0, kind, 0, MOST_NEEDS);
            System.arraycopy(other.at, 0, at, 0, MOST_NEEDS);
            System.arraycopy(other.from, 0, from, 0, MOST_NEEDS);
            System.arraycopy(other.to, 0, to, 0, MOST_NEEDS);
            System.arraycopy(other.worth, 0, worth, 0, MOST_NEEDS);
            count = other.count;
        }

        void read(Tape tape, int houses) {
            count = 0;
            for (int i = 0; i <= MOST_SIGNS && tape.goesOn(); i++) {
                if (count >= MOST_NEEDS && tape.kind == NEED_WORD) {
                    tape.refuse(TOO_MANY);
                }
                readNeed(tape, houses);
            }
        }

        private void readNeed(Tape tape, int houses) {
            tape.pass(NEED_WORD);
            int what = tape.kind - BIRTH_WORD;
            if (tape.kind < BIRTH_WORD || tape.kind > BRIDE_WORD) {
                tape.refuse(CANT_STAND);
            }
            tape.step();
            tape.pass(AT_WORD);
            int where = tape.number(0, houses - 1);
            tape.pass(FROM_WORD);
            int first = tape.number(0, LAST_NIGHT);
            tape.pass(NEED_TO_WORD);
            int end = tape.number(first, LAST_NIGHT);
            tape.pass(WORTH_WORD);
            int value = tape.number(1, 99);
            tape.pass(';');
            if (tape.fault == 0 && count < MOST_NEEDS) {
                kind[count] = what;
                at[count] = where;
                from[count] = first;
                to[count] = end;
                worth[count] = value;
                count++;
            }
        }

        boolean isOpen(int i, Now now) {
            boolean settled = now.done[i] != NONE || ((now.spoilt >> i) & 1) == 1;
            return !settled && now.night >= from[i] && now.night <= to[i];
        }

        int openWorth(int house, Now now) {
            int sum = 0;
            for (int i = 0; i < count; i++) {
                if (at[i] == house && isOpen(i, now)) {
                    sum += worth[i];
                }
            }
            return sum;
        }
    }

    /**
     * A LAW as rows for a stack: below 0 the number -1 - code, a reading by its KEYWORD's kind, or
     * what is done with the topmost ones.
     */
    static final class Law {
        private final int[] code = new int[MOST_SIGNS];
        /** How much of code is filled while it is read. */
        private int size;
        /** Of line i, at 2 i where its E begins (the first at 0), at 2 i + 1 its B, which ends at 2 i + 2. */
        private final int[] marks = new int[2 * MOST_LINES + 1];
        int lines;
        private final int[] stack = new int[64];
        /** ( not and or that wait for what follows, while a B is read. */
        private final int[] held = new int[64];
        private int holding;
        /** ( that are open, and these with nots. */
        private int brackets;
        private int open;

        void take(Law from) {
            System.arraycopy(from.code, 0, code, 0, MOST_SIGNS);
            System.arraycopy(from.marks, 0, marks, 0, 2 * MOST_LINES + 1);
            lines = from.lines;
        }

        void read(Tape tape) {
            size = 0;
            lines = 0;
            for (int i = 0; i <= MOST_SIGNS && tape.goesOn(); i++) {
                if (lines >= MOST_LINES) {
                    tape.refuse(tape.kind == LINE_WORD ? TOO_MANY : CANT_STAND);
                    return;
                }
                tape.pass(LINE_WORD);
                readSum(tape);
                marks[2 * lines + 1] = size;
                if (tape.kind == WHEN_WORD) {
                    tape.step();
                    readCondition(tape);
                }
                tape.pass(';');
                marks[2 * lines + 2] = size;
                if (tape.fault == 0) {
                    lines++;
                }
            }
        }

        /** * and / go on with what is topmost; only a + or - waits for the T behind it. */
        private void readSum(Tape tape) {
            int waiting = NOTHING;
            readOperand(tape);
            for (int i = 0; i <= MOST_SIGNS && tape.fault == 0; i++) {
                int sign = tape.kind;
                if (sign == '*') {
                    tape.step();
                    readOperand(tape);
                    emit(sign);
                } else if (sign == '/') {
                    tape.step();
                    emit(-1 - tape.number(1, 9999));
                    emit(sign);
                } else if (sign == '+' || sign == '-') {
                    emit(waiting);
                    waiting = sign;
                    tape.step();
                    readOperand(tape);
                } else {
                    break;
                }
            }
            emit(waiting);
        }

        private void readOperand(Tape tape) {
            if (tape.kind == NUMBER) {
                emit(-1 - tape.value);
            } else if (tape.kind >= FIRST_READING) {
                emit(tape.kind);
            } else {
                tape.refuse(CANT_STAND);
            }
            tape.step();
        }

        /**
         * Each C that ends is followed by what it ends in turn; and, or wait in held until what binds
         * closer is done. Without recursion, as only eight ( and nots may be open.
         */
        private void readCondition(Tape tape) {
            holding = 0;
            brackets = 0;
            open = 0;
            for (int i = 0; i <= MOST_SIGNS && tape.fault == 0; i++) {
                if (tape.kind == '(' || tape.kind == NOT_WORD) {
                    openPart(tape);
                } else {
                    readSum(tape);
                    int sign = tape.passComparison();
                    readSum(tape);
                    emit(sign);
                    endParts(tape);
                    if (tape.kind != AND_WORD && tape.kind != OR_WORD) {
                        break;
                    }
                    fold(tape.kind);
                    hold(tape.kind);
                    tape.step();
                }
            }
            if (brackets > 0) {
                tape.refuse(CANT_STAND);
            }
            fold(OR_WORD);
        }

        private void openPart(Tape tape) {
            if (open >= MOST_OPEN) {
                tape.refuse(TOO_MANY);
            }
            open++;
            if (tape.kind == '(') {
                brackets++;
            }
            hold(tape.kind);
            tape.step();
        }

        /** A C has ended: so do the nots ahead of it, and each ) ends a C once more. */
        private void endParts(Tape tape) {
            endNots();
            for (int i = 0; i < MOST_OPEN && tape.kind == ')' && brackets > 0; i++) {
                fold(OR_WORD);
                if (holding > 0) {
                    holding--;
                }
                brackets--;
                open--;
                tape.step();
                endNots();
            }
        }

        private void endNots() {
            while (holding > 0 && held[holding - 1] == NOT_WORD) {
                emit(NOT_WORD);
                holding--;
                open--;
            }
        }

        /** What waits and binds at least as close as and, or, goes ahead. */
        private void fold(int word) {
            while (holding > 0 && (held[holding - 1] == AND_WORD || held[holding - 1] == word)) {
                emit(held[holding - 1]);
                holding--;
            }
        }

        private void hold(int word) {
            if (holding < held.length) {
                held[holding] = word;
                holding++;
            }
        }

        private void emit(int what) {
            if (what != NOTHING && size < MOST_SIGNS) {
                code[size] = what;
                size++;
            }
        }

        /** E of the first line whose B is so, or that has none; else without. */
        int tells(int[] readings, int without) {
            for (int i = 0; i < lines && i < MOST_LINES; i++) {
                int condition = marks[2 * i + 1];
                int end = marks[2 * i + 2];
                if (condition == end || value(condition, end, readings) != 0) {
                    return value(marks[2 * i], condition, readings);
                }
            }
            return without;
        }

        private int value(int start, int end, int[] readings) {
            int top = NONE;
            for (int i = start; i < end && i < MOST_SIGNS; i++) {
                int what = code[i];
                if (what < 0 || what >= FIRST_READING) {
                    if (top + 1 < stack.length) {
                        top++;
                        stack[top] = what < 0 ? -1 - what : reading(what - FIRST_READING, readings);
                    }
                } else if (what == NOT_WORD) {
                    if (top >= 0) {
                        stack[top] = 1 - stack[top];
                    }
                } else if (top >= 1) {
                    top--;
                    stack[top] = join(what, stack[top], stack[top + 1]);
                }
            }
            return top >= 0 ? stack[top] : 0;
        }

        private static int reading(int which, int[] readings) {
            return which >= 0 && which < readings.length ? readings[which] : 0;
        }

        private static int join(int what, int a, int b) {
            switch (what) {
                case '+':
                    return a + b;
                case '-':
                    return a - b;
                case '*':
                    return a * b;
                case '/':
                    return b != 0 ? a / b : 0;
                case '<':
                    return a < b ? 1 : 0;
                case '=':
                    return a == b ? 1 : 0;
                case '>':
                    return a > b ? 1 : 0;
                case AND_WORD:
                    return a & b;
                default:
                    return a | b;
            }
        }
    }

    /** A ROUND, NIGHT by NIGHT. */
    static final class Round {
        /** The HOUSE of each go, NONE of stay. */
        final int[] stops = new int[MOST_ROUND];
        int size;
        /** Of each again that is open where it began, and how often it is. */
        private final int[] starts = new int[MOST_AGAIN];
        private final int[] times = new int[MOST_AGAIN];
        private int open;

        void take(Round from) {
            System.arraycopy(from.stops, 0, stops, 0, MOST_ROUND);
            size = from.size;
        }

        void read(Tape tape, int houses) {
            size = 0;
            open = 0;
            for (int i = 0; i <= MOST_SIGNS && tape.goesOn(); i++) {
                if (tape.kind == GO_WORD) {
                    tape.step();
                    int goal = tape.number(0, houses - 1);
                    tape.pass(';');
                    add(goal, 1);
                } else if (tape.kind == STAY_WORD) {
                    tape.step();
                    int nights = tape.number(1, 60);
                    tape.pass(';');
                    add(NONE, nights);
                } else if (tape.kind == AGAIN_WORD) {
                    readAgain(tape);
                } else if (tape.kind == ')' && open > 0) {
                    tape.step();
                    repeat();
                } else {
                    tape.refuse(CANT_STAND);
                }
            }
            if (open > 0) {
                tape.refuse(CANT_STAND);
            }
            if (size > MOST_ROUND) {
                tape.refuse(TOO_LONG);
            }
        }

        private void readAgain(Tape tape) {
            if (open >= MOST_AGAIN) {
                tape.refuse(TOO_MANY);
            }
            tape.step();
            int often = tape.number(1, 9);
            tape.pass('(');
            if (tape.fault == 0 && open < MOST_AGAIN) {
                starts[open] = size;
                times[open] = often;
                open++;
            }
        }

        /** Counts on above what is kept: the end of the text tells of it. */
        private void add(int stop, int nights) {
            for (int i = size; i < size + nights && i < MOST_ROUND; i++) {
                stops[i] = stop;
            }
            size += nights;
        }

        private void repeat() {
            if (open <= 0) {
                return;
            }
            open--;
            int part = size - starts[open];
            int whole = starts[open] + part * times[open];
            for (int i = size; i < whole && i < MOST_ROUND; i++) {
                stops[i] = stops[i - part];
            }
            size = whole;
        }
    }

    /** CLUES as they came. */
    static final class Clues {
        final int[] night = new int[MOST_CLUES];
        final int[] set = new int[MOST_CLUES];
        int count;

        void take(Clues from) {
            System.arraycopy(from.night, 0, night, 0, MOST_CLUES);
            System.arraycopy(from.set, 0, set, 0, MOST_CLUES);
            count = from.count;
        }

        /** The HOUSES that all CLUES of that NIGHT leave. */
        int left(int when, int all) {
            int left = all;
            for (int i = 0; i < count && i < MOST_CLUES; i++) {
                if (night[i] == when) {
                    left &= set[i];
                }
            }
            return left;
        }
    }

    /** All that THE IMAGE keeps, and how a NIGHT goes by in it. */
    static final class Village {
        final Now now = new Now();
        final Houses houses = new Houses();
        final Paths paths = new Paths();
        final Needs needs = new Needs();
        final Law turns = new Law();
        final Law burning = new Law();
        final Round round = new Round();
        final Clues clues = new Clues();
        final int[] book = new int[MOST_BOOK * BOOK_WIDTH];
        int flakes;
        int margin;
        int dusk = 20;
        int due = 30;
        private final int[] readings = new int[READINGS];
        /** Of a million, what each SNOW has, and what it had a NIGHT ahead. */
        private final int[] chance = new int[SNOWS];
        private final int[] chanceAhead = new int[SNOWS];
        /** What weighReaching() found for each HOUSE. */
        final int[] likely = new int[MOST_HOUSES];

        void take(Village from) {
            now.take(from.now);
            houses.take(from.houses);
            paths.take(from.paths);
            needs.take(from.needs);
            turns.take(from.turns);
            burning.take(from.burning);
            round.take(from.round);
            clues.take(from.clues);
            System.arraycopy(from.book, 0, book, 0, MOST_BOOK * BOOK_WIDTH);
            flakes = from.flakes;
            margin = from.margin;
            dusk = from.dusk;
            due = from.due;
        }

        void tellOfAll(int what, int v) {
            switch (what) {
                case 0:
                    now.snow = v;
                    break;
                case 1:
                    flakes = v;
                    break;
                case 2:
                    margin = v;
                    break;
                case 3:
                    dusk = v;
                    break;
                case 4:
                    due = v;
                    break;
                default:
                    now.lamp = v;
                    break;
            }
        }

        void tellOfHouse(int what, int h, int v) {
            switch (what) {
                case 6:
                    houses.people[h] = v;
                    break;
                case 7:
                    now.oil[h] = v;
                    break;
                case 8:
                    now.owed[h] = v;
                    break;
                case 9:
                    houses.bid[h] = v;
                    break;
                default:
                    houses.says[h] = v;
                    break;
            }
        }

        boolean isReached(int a, int b, int snow) {
            int far = paths.apart(a, b, snow);
            return far != NONE && far <= dusk;
        }

        int reachedSet(int a) {
            int set = 0;
            for (int b = 0; b < houses.count; b++) {
                if (isReached(a, b, now.snow)) {
                    set |= 1 << b;
                }
            }
            return set;
        }

        int turnsOf(Now s, int h) {
            readHouse(s, h);
            return turns.tells(readings, readings[WAITED]);
        }

        int burningOf(Now s, int h) {
            readHouse(s, h);
            return Math.max(0, Math.min(MOST_BURNT, burning.tells(readings, 1)));
        }

        /** In the order of their KEYWORDS. */
        private void readHouse(Now s, int h) {
            int far = paths.apart(s.lamp, h, s.snow);
            readings[0] = h;
            readings[1] = s.owed[h];
            readings[WAITED] = s.waited(h);
            readings[3] = s.snow;
            readings[4] = s.oil[h];
            readings[5] = s.night % 120 / 30;
            readings[6] = houses.people[h];
            readings[7] = needs.openWorth(h, s);
            readings[8] = far == NONE ? UNREACHED_FAR : far;
            readings[9] = houses.bid[h];
        }

        /** One NIGHT of s, which in thought has no draws and no book: whether it was LIT. */
        boolean passNight(Now s, boolean real) {
            int h = nextHouse(s);
            if (!houses.has(h)) {
                return false;
            }
            if (s.gone < round.size) {
                s.gone++;
            }
            s.lamp = h;
            int burns = burningOf(s, h);
            boolean lit = s.oil[h] >= burns;
            int burnt = Math.min(burns, s.oil[h]);
            s.oil[h] -= burnt;
            int done = lit ? light(s, h) : 0;
            countOwed(s);
            spoilNeeds(s);
            if (real) {
                writeLine(s, lit ? 1 : 0, burnt, done);
                drawSnow(s);
            }
            s.night++;
            return lit;
        }

        private int nextHouse(Now s) {
            if (s.gone < round.size && s.gone < MOST_ROUND) {
                int goal = round.stops[s.gone];
                return goal != NONE && isReached(s.lamp, goal, s.snow) ? goal : s.lamp;
            }
            int chosen = NONE;
            int most = 0;
            for (int h = 0; h < houses.count; h++) {
                if (isReached(s.lamp, h, s.snow)) {
                    int told = turnsOf(s, h);
                    if (chosen == NONE || told > most) {
                        chosen = h;
                        most = told;
                    }
                }
            }
            return chosen;
        }

        /** Answers the NEEDS that are done by the light. */
        private int light(Now s, int h) {
            boolean ahead = s.wasLitAhead(h);
            int set = 0;
            for (int i = 0; i < needs.count; i++) {
                boolean served = needs.kind[i] != BRIDE || ahead;
                if (needs.at[i] == h && needs.isOpen(i, s) && served) {
                    s.done[i] = s.night;
                    set |= 1 << i;
                }
            }
            s.had[h]++;
            s.last[h] = s.night;
            s.owed[h] = Math.max(0, s.owed[h] - 1);
            return set;
        }

        private void countOwed(Now s) {
            for (int h = 0; h < houses.count; h++) {
                int waited = s.waited(h);
                if (waited > 0 && due > 0 && waited % due == 0) {
                    s.owed[h] = Math.min(MOST_OWED, s.owed[h] + 1);
                }
            }
        }

        private void spoilNeeds(Now s) {
            for (int i = 0; i < needs.count; i++) {
                if (needs.to[i] == s.night && s.done[i] == NONE) {
                    s.spoilt |= 1 << i;
                }
            }
        }

        private void writeLine(Now s, int lit, int burnt, int done) {
            if (s.lines < 0 || s.lines >= MOST_BOOK) {
                return;
            }
            int line = s.lines * BOOK_WIDTH;
            book[line] = s.night;
            book[line + 1] = s.lamp;
            book[line + 2] = lit;
            book[line + 3] = burnt;
            book[line + 4] = s.snow;
            book[line + 5] = done;
            s.lines++;
        }

        private void drawSnow(Now s) {
            if (flakes <= 0) {
                return;
            }
            if (s.draw(THOUSAND) < flakes) {
                s.snow = Math.min(MOST_SNOW, s.snow + 1);
            } else {
                s.snow = Math.max(0, s.snow - 1);
            }
        }

        /** SURE from each HOUSE; FAR is the same both ways, so it is measured from the goal. */
        void weighReaching(int goal, int k) {
            spreadSnow(k);
            for (int h = 0; h < houses.count; h++) {
                likely[h] = 0;
            }
            for (int snow = 0; snow < SNOWS; snow++) {
                if (chance[snow] > 0) {
                    for (int h = 0; h < houses.count; h++) {
                        if (isReached(goal, h, snow)) {
                            likely[h] += chance[snow];
                        }
                    }
                }
            }
        }

        private void spreadSnow(int k) {
            for (int snow = 0; snow < SNOWS; snow++) {
                chance[snow] = snow == now.snow ? MILLION : 0;
            }
            if (flakes == 0) {
                return;
            }
            for (int i = 0; i < k; i++) {
                System.arraycopy(chance, 0, chanceAhead, 0, SNOWS);
                for (int snow = 0; snow < SNOWS; snow++) {
                    chance[snow] = 0;
                }
                for (int snow = 0; snow < SNOWS; snow++) {
                    int more = chanceAhead[snow] * flakes / THOUSAND;
                    chance[Math.min(MOST_SNOW, snow + 1)] += more;
                    chance[Math.max(0, snow - 1)] += chanceAhead[snow] - more;
                }
            }
        }
    }

    /** The TAPE, and its TOKENS one by one; once there is a FAULT nothing is read any more. */
    static final class Tape {
        private final int[] signs = new int[MOST_SIGNS];
        int size;
        private String words = "";
        private int at;
        int kind;
        int value;
        private int place;
        int fault;
        int faultPlace = NONE;

        void append(int number) {
            for (int shift = 24; shift >= 0; shift -= 8) {
                if (size < MOST_SIGNS) {
                    signs[size] = (number >>> shift) & 255;
                    size++;
                }
            }
        }

        void open(int text) {
            words = wordsOf(text);
            fault = 0;
            faultPlace = NONE;
            at = 0;
            step();
        }

        private static String wordsOf(int text) {
            switch (text) {
                case TURNS:
                    return TURN_WORDS;
                case BURNING:
                    return BURN_WORDS;
                case PATHS:
                    return PATH_WORDS;
                case NEEDS:
                    return NEED_WORDS;
                case ROUND:
                    return ROUND_WORDS;
                default:
                    return "";
            }
        }

        boolean goesOn() {
            return fault == 0 && kind != END;
        }

        void refuse(int why) {
            if (fault == 0) {
                fault = why;
                faultPlace = place;
            }
        }

        void step() {
            if (fault != 0) {
                return;
            }
            while (at < size && (signs[at] == 32 || signs[at] == 10)) {
                at++;
            }
            place = at;
            if (at >= size) {
                kind = END;
            } else if (isLetter(signs[at])) {
                while (at < size && isLetter(signs[at])) {
                    at++;
                }
                int word = wordNumber();
                kind = word == NONE ? WRONG : WORDS + word;
            } else if (isDigit(signs[at])) {
                readNumber();
            } else {
                kind = SIGNS.indexOf((char) signs[at]) >= 0 ? signs[at] : WRONG;
                at++;
            }
        }

        private static boolean isLetter(int sign) {
            return (sign >= 'a' && sign <= 'z') || (sign >= 'A' && sign <= 'Z');
        }

        private static boolean isDigit(int sign) {
            return sign >= '0' && sign <= '9';
        }

        private void readNumber() {
            value = 0;
            while (at < size && isDigit(signs[at])) {
                if (at - place < 4) {
                    value = 10 * value + signs[at] - '0';
                }
                at++;
            }
            kind = at - place <= 4 ? NUMBER : WRONG;
        }

        /** Which of the words stands from place to at. */
        private int wordNumber() {
            int number = 0;
            int sign = place;
            boolean same = true;
            for (int i = 0; i < words.length(); i++) {
                char c = words.charAt(i);
                if (c != ' ') {
                    same = same && sign < at && signs[sign] == c;
                    sign++;
                } else if (same && sign == at) {
                    return number;
                } else {
                    number++;
                    sign = place;
                    same = true;
                }
            }
            return same && sign == at ? number : NONE;
        }

        void pass(int due) {
            if (kind != due) {
                refuse(CANT_STAND);
            }
            step();
        }

        int passComparison() {
            int sign = kind;
            if (sign != '<' && sign != '=' && sign != '>') {
                refuse(CANT_STAND);
            }
            step();
            return sign;
        }

        int number(int least, int most) {
            if (kind != NUMBER) {
                refuse(CANT_STAND);
            } else if (value < least || value > most) {
                refuse(BAD_NUMBER);
            }
            int number = fault == 0 ? value : least;
            step();
            return number;
        }
    }

    /**
     * PLAN. Of all rows of NIGHTS that end at one HOUSE with one set of NEEDS done only the cheapest
     * is kept. A cost is the way, and below it the HOUSES as the digits of a number: so the least
     * cost is the least way, and of several the first.
     */
    static final class Planner {
        /** The NIGHTS that it stands for; 0 if it has to be searched anew. */
        int planned;
        int mostWorth;
        private long leastCost;
        /** A row of HOUSES for each set of NEEDS that are done: the least cost, or NONE. */
        private final long[] costs = new long[MOST_HOUSES << MOST_NEEDS];
        private final long[] lifted = new long[MOST_HOUSES];
        /** FAR if REACHED, else NONE. */
        private final int[] hops = new int[MOST_HOUSES * MOST_HOUSES];
        /** The NEEDS that can be done in these NIGHTS: sets count these alone. */
        private final int[] wanted = new int[MOST_NEEDS];
        private int wants;
        /** What is done at each HOUSE in the NIGHT that is thought of, and of brides besides. */
        private final int[] served = new int[MOST_HOUSES];
        private final int[] wed = new int[MOST_HOUSES];

        void search(Village v, int n) {
            gatherNeeds(v, n);
            gatherHops(v);
            int houses = v.houses.count;
            int sets = 1 << wants;
            for (int i = 0; i < houses * sets && i < costs.length; i++) {
                costs[i] = NONE;
            }
            if (v.houses.has(v.now.lamp)) {
                costs[v.now.lamp] = 0;
            }
            long digit = power(n - 1);
            for (int k = 0; k < n; k++) {
                gatherServed(v, k);
                spreadNight(houses, sets, k == 0 ? v.now : null, digit);
                digit /= 10;
            }
            choose(v, houses, sets);
            planned = n;
        }

        private void gatherNeeds(Village v, int n) {
            int first = v.now.night;
            wants = 0;
            for (int i = 0; i < v.needs.count && i < MOST_NEEDS; i++) {
                boolean settled = v.now.done[i] != NONE || ((v.now.spoilt >> i) & 1) == 1;
                if (!settled && v.needs.from[i] < first + n && v.needs.to[i] >= first) {
                    wanted[wants] = i;
                    wants++;
                }
            }
        }

        private void gatherHops(Village v) {
            for (int a = 0; a < v.houses.count; a++) {
                for (int b = 0; b < v.houses.count; b++) {
                    int far = v.paths.apart(a, b, v.now.snow);
                    hops[a * MOST_HOUSES + b] = far <= v.dusk ? far : NONE;
                }
            }
        }

        private void gatherServed(Village v, int k) {
            int night = v.now.night + k;
            for (int h = 0; h < MOST_HOUSES; h++) {
                served[h] = 0;
                wed[h] = 0;
            }
            for (int j = 0; j < wants; j++) {
                int i = wanted[j];
                int h = v.needs.at[i];
                if (night >= v.needs.from[i] && night <= v.needs.to[i] && h >= 0 && h < MOST_HOUSES) {
                    wed[h] |= 1 << j;
                    if (v.needs.kind[i] != BRIDE) {
                        served[h] |= 1 << j;
                    }
                }
            }
        }

        /**
         * Greatest set first: what a row goes on to is a set that holds its own, so one table is
         * enough. Of the first NIGHT the NIGHT ahead is that of start, which is null later on.
         */
        private void spreadNight(int houses, int sets, Now start, long digit) {
            for (int set = sets - 1; set >= 0; set--) {
                if (lift(houses, set)) {
                    for (int a = 0; a < houses; a++) {
                        if (lifted[a] != NONE) {
                            goOn(houses, set, a, start, digit);
                        }
                    }
                }
            }
        }

        /** Takes a set's row out of the table: whether there is a cost in it. */
        private boolean lift(int houses, int set) {
            boolean any = false;
            int row = set * houses;
            for (int h = 0; h < houses; h++) {
                lifted[h] = costs[row + h];
                costs[row + h] = NONE;
                any = any || lifted[h] != NONE;
            }
            return any;
        }

        private void goOn(int houses, int set, int a, Now start, long digit) {
            for (int h = 0; h < houses; h++) {
                int hop = hops[a * MOST_HOUSES + h];
                if (hop != NONE) {
                    boolean ahead = start != null ? start.wasLitAhead(h) : a == h;
                    int then = set | (ahead ? wed[h] : served[h]);
                    int cell = then * houses + h;
                    long cost = lifted[a] + hop * WAY + h * digit;
                    if (costs[cell] == NONE || costs[cell] > cost) {
                        costs[cell] = cost;
                    }
                }
            }
        }

        private void choose(Village v, int houses, int sets) {
            mostWorth = NONE;
            leastCost = 0;
            for (int set = 0; set < sets; set++) {
                int worth = worthOf(v, set);
                for (int h = 0; h < houses; h++) {
                    long cost = costs[set * houses + h];
                    boolean better = worth > mostWorth || (worth == mostWorth && cost < leastCost);
                    if (cost != NONE && better) {
                        mostWorth = worth;
                        leastCost = cost;
                    }
                }
            }
        }

        private int worthOf(Village v, int set) {
            int sum = 0;
            for (int j = 0; j < wants; j++) {
                if (((set >> j) & 1) == 1) {
                    sum += v.needs.worth[wanted[j]];
                }
            }
            return sum;
        }

        int way() {
            return (int) (leastCost / WAY);
        }

        int stop(int k) {
            return (int) (leastCost / power(planned - 1 - k) % 10);
        }

        private static long power(int n) {
            long power = 1;
            for (int i = 0; i < n; i++) {
                power *= 10;
            }
            return power;
        }
    }

    /** WAYS: how many rows of HOUSES lead to each one in each NIGHT, and on from there. */
    static final class Trail {
        private final long[] leading = new long[MOST_WAYS * MOST_HOUSES];
        private final long[] going = new long[MOST_WAYS * MOST_HOUSES];
        private final int[] reached = new int[MOST_HOUSES];

        long follow(Village v, int n) {
            int houses = v.houses.count;
            for (int h = 0; h < houses; h++) {
                reached[h] = v.reachedSet(h);
            }
            for (int night = 0; night < n; night++) {
                int left = v.clues.left(night, v.houses.all());
                fill(leading, night, night - 1, left, houses);
            }
            for (int night = n - 1; night >= 0; night--) {
                int left = v.clues.left(night, v.houses.all());
                fill(going, night, night + 1 < n ? night + 1 : NONE, left, houses);
            }
            long all = 0;
            for (int h = 0; h < houses; h++) {
                all += going[h];
            }
            return all;
        }

        /** A NIGHT's row from its neighbour's, or from nothing (NONE); REACHED is the same both ways. */
        private void fill(long[] rows, int night, int neighbour, int left, int houses) {
            for (int h = 0; h < houses; h++) {
                long sum = neighbour == NONE ? 1 : 0;
                for (int a = 0; a < houses && neighbour != NONE; a++) {
                    if (((reached[h] >> a) & 1) == 1) {
                        sum += rows[neighbour * MOST_HOUSES + a];
                    }
                }
                rows[night * MOST_HOUSES + h] = ((left >> h) & 1) == 1 ? sum : 0;
            }
        }

        long through(int night, int h) {
            int cell = night * MOST_HOUSES + h;
            return leading[cell] * going[cell];
        }

        /** NIGHT times ten and HOUSE. */
        int question(long all, int n, int houses) {
            int chosen = 0;
            long least = all;
            for (int night = 0; night < n; night++) {
                for (int h = 0; h < houses; h++) {
                    long there = through(night, h);
                    long greater = Math.max(there, all - there);
                    if (greater < least) {
                        least = greater;
                        chosen = night * MOST_HOUSES + h;
                    }
                }
            }
            return chosen;
        }
    }
}
