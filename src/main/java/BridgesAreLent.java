import java.util.NoSuchElementException;

/** A river of many arms whose few bridges are towed to where they are needed; DOC.md has the promises by number. */
public final class BridgesAreLent {
    public static final int NONE = -1;

    private static final int MOST_SIGNS = 80;
    private static final int RIVER_SIGNS = 72;
    private static final int LINE_SIGNS = 17;
    private static final int RULE_SIGNS = 40;
    private static final int DAY_SIGNS = 60;
    private static final int MOST_CROSSINGS = 10;
    private static final int MOST_BRIDGES = 6;
    private static final int MOST_PEOPLE = 6;
    private static final int MOST_ERRANDS = 8;
    private static final int MOST_HOURS = 99;
    private static final int LAST_HOUR = 999999;
    private static final int MISSING_SHEET = 3;
    private static final int NO_SUCH_COUNT = -100;

    private static final int CANT = -2;
    private static final int THERE_OR_TOWED = -2;
    private static final int TOO_SHORT = -3;
    private static final int TAKEN = -4;
    private static final int ANOTHER_HOUR = -2;
    private static final int NO_SUCH_BRIDGE = -3;
    private static final int ELSEWHERE = -2;
    private static final int NOT_OPEN = -3;
    private static final int BELOW_NOTHING = -2;
    private static final int MISSING = -3;

    private final Text text = new Text();
    private final Row told = new Row();
    private final Valley valley = new Valley();
    private final Layouts layouts = new Layouts(valley);
    private final Drifting drifting = new Drifting(valley);
    private final Finds finds = new Finds(valley);
    private final Day plan = new Day();
    private final Memory memory = new Memory();

    public BridgesAreLent() {
    }

    // ---- the river, bridges, people

    public int sign(int v) {
        return text.put(v);
    }

    public boolean end(int n) {
        return text.cut(n);
    }

    public int river() {
        text.open(RIVER_SIGNS);
        valley.draft.read(text);
        int bad = text.close();
        if (bad != NONE) {
            return refusalAt(bad);
        }
        valley.settle();
        memory.forgetAll();
        return valley.river.crossings;
    }

    public int bridges() {
        text.open(LINE_SIGNS);
        int lines = valley.readBridges(text);
        int bad = text.close();
        if (bad != NONE) {
            return refusalAt(bad);
        }
        valley.state.bridges += lines;
        forgetPastIf(lines > 0);
        return lines;
    }

    public int people() {
        text.open(LINE_SIGNS);
        int lines = valley.readPeople(text);
        int bad = text.close();
        if (bad != NONE) {
            return refusalAt(bad);
        }
        valley.state.people += lines;
        forgetPastIf(lines > 0);
        return lines;
    }

    public int rule() {
        text.open(RULE_SIGNS);
        valley.rule.read(text);
        int bad = text.close();
        if (bad != NONE) {
            return refusalAt(bad);
        }
        valley.rule.adopt();
        return 0;
    }

    public int crossing(int crossing, int what) throws NoSuchElementException {
        if (!valley.hasCrossing(crossing) || what < 0 || what > 5) {
            throw new NoSuchElementException("no such crossing, or nothing such of it");
        }
        switch (what) {
            case 0:
                return valley.river.one[crossing];
            case 1:
                return valley.river.other[crossing];
            case 2:
                return valley.river.place[crossing];
            case 3:
                return valley.river.width[crossing];
            case 4:
                return valley.state.lyingAt(crossing);
            default:
                return valley.state.comingTo(crossing);
        }
    }

    public int bridge(int bridge, int what) throws NoSuchElementException {
        if (!valley.hasBridge(bridge) || what < 0 || what > 4) {
            throw new NoSuchElementException("no such bridge, or nothing such of it");
        }
        switch (what) {
            case 0:
                return valley.length[bridge];
            case 1:
                return valley.state.sound[bridge];
            case 2:
                return valley.state.where[bridge];
            case 3:
                return valley.state.yet[bridge];
            default:
                return valley.state.till[bridge];
        }
    }

    public int person(int person, int what) throws NoSuchElementException {
        if (!valley.hasPerson(person) || what < 0 || what > 1) {
            throw new NoSuchElementException("no such person, or nothing such of it");
        }
        return what == 0 ? valley.state.bank[person] : valley.weight[person];
    }

    public int sheet(int kind, int n, int f, int step) {
        if (kind < 0 || kind > MISSING_SHEET || n > MOST_BRIDGES) {
            return NONE;
        }
        if (kind == MISSING_SHEET) {
            valley.sounds(kind, 0, 0, 0);
            return MISSING;
        }
        if (n < 0) {
            return BELOW_NOTHING;
        }
        return valley.sounds(kind, n, f, step);
    }

    // ---- hours

    public int takes(int bridge, int crossing) {
        return valley.towTime(bridge, crossing);
    }

    public int tow(int bridge, int crossing) {
        memory.note(valley.state);
        int answer = valley.startTow(bridge, crossing);
        memory.holdIf(answer >= 0);
        return answer;
    }

    public int lend(int bridge, int hour) {
        memory.note(valley.state);
        int answer = valley.setLoan(bridge, hour);
        memory.holdIf(answer >= NONE);
        return answer;
    }

    public int cross(int person, int crossing) {
        memory.note(valley.state);
        int answer = valley.walk(person, crossing);
        memory.holdIf(answer >= 0);
        return answer;
    }

    public int hours(int n) {
        if (n < 0 || n > MOST_HOURS) {
            return NONE;
        }
        memory.note(valley.state);
        valley.passHours(n);
        memory.holdIf(true);
        told.tellTwo(valley.came, valley.failed);
        return valley.state.now;
    }

    public int day() {
        text.open(DAY_SIGNS);
        plan.read(text);
        int bad = text.close();
        if (bad != NONE) {
            return refusalAt(bad);
        }
        memory.note(valley.state);
        int brokenBefore = valley.state.broken;
        int done = plan.perform(valley);
        memory.holdIf(done > 0);
        told.tellTwo(done < plan.size ? 1 : 0, valley.state.broken - brokenBefore);
        return done;
    }

    public int undo() {
        if (memory.size == 0) {
            return NONE;
        }
        valley.state.become(memory.takeLatest());
        return memory.size;
    }

    // ---- who can go where

    public int route(int person, int bank) {
        if (!valley.hasPerson(person) || !valley.hasBank(bank)) {
            return NONE;
        }
        int from = valley.state.bank[person];
        int open = valley.openFor(valley.weight[person], 0);
        int steps = valley.river.steps(from, bank, open);
        if (steps == NONE) {
            return CANT;
        }
        told.clear();
        valley.river.tellWay(told, from, bank, steps, open);
        return steps;
    }

    public int joined(int bank) {
        if (!valley.hasBank(bank)) {
            return NONE;
        }
        int open = valley.openFor(0, 0);
        told.tellOne(valley.river.pairs(open));
        return valley.river.reach(bank, open);
    }

    public int soonest(int person, int bank) {
        if (!valley.hasPerson(person) || !valley.hasBank(bank)) {
            return NONE;
        }
        int reached = 1 << valley.state.bank[person];
        for (int hour = 0; hour <= MOST_HOURS; hour++) {
            if (has(reached, bank)) {
                return hour;
            }
            reached = valley.river.spread(reached, valley.openFor(valley.weight[person], hour));
        }
        return CANT;
    }

    public int moves(int person, int bank) {
        if (!valley.hasPerson(person) || !valley.hasBank(bank)) {
            return NONE;
        }
        int open = valley.openFor(valley.weight[person], 0);
        if (valley.river.leads(valley.state.bank[person], bank, open)) {
            told.clear();
            return 0;
        }
        if (valley.byOneMove(told, person, bank, open)) {
            return 1;
        }
        return valley.byTwoMoves(told, person, bank, open) ? 2 : CANT;
    }

    public int needed() {
        int open = valley.openFor(0, 0);
        int best = NONE;
        int fewest = 0;
        for (int b = 0; b < valley.state.bridges; b++) {
            if (valley.state.lies(b)) {
                int left = valley.river.pairs(open & ~(1 << valley.state.where[b]));
                if (best == NONE || left < fewest) {
                    best = b;
                    fewest = left;
                }
            }
        }
        if (best == NONE) {
            return CANT;
        }
        told.tellTwo(fewest, valley.river.pairs(open));
        return best;
    }

    // ---- bridges laid out anew

    public int lays(int those) {
        if (!within(those, valley.river.crossings)) {
            return NONE;
        }
        told.clear();
        int crew = layouts.muster();
        if (!layouts.fits(those, crew)) {
            return 0;
        }
        layouts.tellLeast(told, those, crew);
        return 1;
    }

    public int joins(int those) {
        if (!within(those, valley.river.banks)) {
            return NONE;
        }
        layouts.wish(those);
        return layouts.tellFewest(told);
    }

    public int night() {
        return layouts.tellBest(told);
    }

    public int errands() {
        text.open(MOST_SIGNS);
        layouts.readErrands(text);
        int bad = text.close();
        if (bad != NONE) {
            return refusalAt(bad);
        }
        return layouts.tellFewest(told);
    }

    // ---- floods

    public int flood(int v) {
        if (v < 0 || v > 9) {
            return NONE;
        }
        int swept = valley.tooShortBy(v);
        told.tellOne(valley.river.pairs(valley.openFor(0, 0) & ~swept));
        return swept;
    }

    public int highest() {
        int open = valley.openFor(0, 0);
        int all = valley.river.pairs(open);
        for (int v = 1; v <= 9; v++) {
            int left = valley.river.pairs(open & ~valley.tooShortBy(v));
            if (left < all) {
                told.tellOne(left);
                return v - 1;
            }
        }
        told.tellOne(NONE);
        return 9;
    }

    public int worst(int n) {
        if (n < 0 || n > 3) {
            return NONE;
        }
        int open = valley.openFor(0, 0);
        int lost = Math.min(n, Integer.bitCount(open));
        int fewest = NONE;
        int which = 0;
        for (int those = 0; those <= open; those++) {
            if ((those & ~open) == 0 && Integer.bitCount(those) == lost) {
                int left = valley.river.pairs(open & ~those);
                if (fewest == NONE || left < fewest) {
                    fewest = left;
                    which = those;
                }
            }
        }
        told.tellOne(which);
        return fewest;
    }

    // ---- drift

    public int drift(int bridge, int p, int n, int crossing) {
        if (!valley.hasCrossing(crossing) || !valley.hasBridge(bridge) || !drifting.accepts(p, n)) {
            return NONE;
        }
        if (!valley.state.lies(bridge)) {
            return CANT;
        }
        drifting.spreadChances(valley.state.where[bridge], p, n);
        drifting.tellChance(told, crossing);
        return 0;
    }

    public int seek(int bridge, int p, int n) {
        if (!valley.hasBridge(bridge) || !drifting.accepts(p, n)) {
            return NONE;
        }
        if (!valley.state.lies(bridge)) {
            return CANT;
        }
        drifting.spreadChances(valley.state.where[bridge], p, n);
        int likeliest = drifting.likeliest();
        drifting.tellChance(told, likeliest);
        return likeliest;
    }

    // ---- thefts

    public int found(int what, int v, int is) {
        return finds.add(what, v, is);
    }

    public int forget() {
        int had = finds.size;
        finds.size = 0;
        return had;
    }

    public int stolen() {
        int fitting = finds.fitting();
        told.tellOne(Integer.bitCount(fitting));
        return fitting;
    }

    public int ask() {
        int fitting = finds.fitting();
        if (fitting == 0) {
            return CANT;
        }
        int best = NONE;
        int fewest = 0;
        for (int question = 0; question < Finds.QUESTIONS; question++) {
            if (Finds.isQuestion(question / Finds.VALUES, question % Finds.VALUES)) {
                int left = finds.mostLeft(question, fitting);
                if (best == NONE || left < fewest) {
                    best = question;
                    fewest = left;
                }
            }
        }
        told.tellOne(fewest);
        return best;
    }

    // ---- two who share, loans

    public int share(int one, int other, int n, int k) {
        if (!within(one, 24) || !within(other, 24) || n < 1 || n > 48 || k < 1 || k > 48) {
            return NONE;
        }
        told.tellTwo(hoursWanted(one, n, k, 1), hoursWanted(other, n, k, 0));
        return hoursWanted(one, n, k, 0) + hoursWanted(other, n, k, 1);
    }

    public int turn(int one, int other, int n) {
        if (!within(one, 24) || !within(other, 24) || n < 1 || n > 48) {
            return NONE;
        }
        int best = NONE;
        int most = 0;
        for (int k = 1; k <= 24; k++) {
            int sum = hoursWanted(one, n, k, 0) + hoursWanted(other, n, k, 1);
            if (best == NONE || sum > most) {
                best = k;
                most = sum;
            }
        }
        told.tellOne(most);
        return best;
    }

    public int rests(int c) {
        if (c < 0 || c > 9) {
            return NONE;
        }
        told.clear();
        int pairs = 0;
        for (int first = 1; first <= 9; first++) {
            for (int second = 1; second <= 9; second++) {
                if (keepsPrice(first, second, c) && keepsPrice(second, first, c)) {
                    if (pairs == 0) {
                        told.tellTwo(first, second);
                    }
                    pairs++;
                }
            }
        }
        return pairs;
    }

    public int home() {
        int late = 0;
        int last = valley.state.now;
        for (int b = 0; b < valley.state.bridges; b++) {
            if (valley.state.till[b] != NONE) {
                int hour = valley.homeHour(b);
                if (hour == NONE || hour > valley.state.till[b]) {
                    late |= 1 << b;
                } else {
                    last = Math.max(last, hour);
                }
            }
        }
        told.tellOne(last);
        return late;
    }

    // ---- years

    public int years(int seed, int n) {
        if (n < 1 || n > 60 || valley.state.bridges == 0) {
            return NONE;
        }
        return drifting.tellYears(told, seed, n);
    }

    // ---- kept

    public boolean keep(int i) {
        return memory.shelve(i, valley.state);
    }

    public boolean again(int i) {
        if (!memory.canReturnTo(i, valley.state)) {
            return false;
        }
        valley.state.become(memory.shelf[i]);
        memory.forgetPast();
        return true;
    }

    public int count(int what) {
        switch (what) {
            case 0:
                return valley.river.banks;
            case 1:
                return valley.river.crossings;
            case 2:
                return valley.state.bridges;
            case 3:
                return valley.state.people;
            case 4:
                return valley.state.now;
            case 5:
                return valley.state.inShed();
            case 6:
                return valley.state.underTow();
            case 7:
                return valley.state.lent();
            case 8:
                return valley.state.broken;
            case 9:
                return finds.size;
            case 10:
                return memory.size;
            case 11:
                return told.size;
            case 12:
                return text.size;
            case 13:
                return valley.river.pairs(valley.openFor(0, 0));
            default:
                return NO_SUCH_COUNT;
        }
    }

    public long row(int i) throws NoSuchElementException {
        if (i < 0 || i >= told.size) {
            throw new NoSuchElementException("the row has no such number");
        }
        return told.numbers[i];
    }

    private void forgetPastIf(boolean changed) {
        if (changed) {
            memory.forgetPast();
        }
    }

    private static int refusalAt(int place) {
        return -1 - place;
    }

    private static boolean has(int set, int i) {
        return (set >> i & 1) == 1;
    }

    /** Whether a set has none but the first so many things. */
    private static boolean within(int set, int size) {
        return set >> size == 0;
    }

    /** In how many of n HOURS one wants the BRIDGE while it is who's (0, 1) turn of k HOURS. */
    private static int hoursWanted(int wants, int n, int k, int who) {
        int hours = 0;
        for (int h = 0; h < n && k > 0; h++) {
            if (h / k % 2 == who && has(wants, h % 24)) {
                hours++;
            }
        }
        return hours;
    }

    private static int gain(int own, int others, int c) {
        if (own > others) {
            return 0;
        }
        return own < others ? own - c : (own - c) / 2;
    }

    private static boolean keepsPrice(int own, int others, int c) {
        for (int price = 1; price <= 9; price++) {
            if (gain(price, others, c) > gain(own, others, c)) {
                return false;
            }
        }
        return true;
    }

    /** THE TEXT, and how far a call has read it. */
    private static final class Text {
        private final int[] signs = new int[MOST_SIGNS];
        private int size;
        private int limit;
        private int at;
        private int bad = NONE;

        int put(int v) {
            if (size > MOST_SIGNS - 4) {
                return NONE;
            }
            for (int shift = 24; shift >= 0; shift -= 8) {
                signs[size] = v >>> shift & 255;
                size++;
            }
            return size;
        }

        boolean cut(int n) {
            if (n < 0 || n > size) {
                return false;
            }
            size = n;
            return true;
        }

        void open(int most) {
            limit = Math.min(most, size);
            at = 0;
            bad = NONE;
        }

        /** The sign to be read next; NONE at the end, and behind a sign that can't stand, so that all reading stops. */
        int peek() {
            return bad == NONE && at < limit ? signs[at] : NONE;
        }

        void refuse() {
            if (bad == NONE) {
                bad = at;
            }
        }

        boolean skip(int sign) {
            if (peek() != sign) {
                return false;
            }
            at++;
            return true;
        }

        /** Reads a sign from low to high: how far above low it is. */
        int pick(int low, int high) {
            int next = peek();
            if (next < low || next > high) {
                refuse();
                return 0;
            }
            at++;
            return next - low;
        }

        /** Reads a sign that is one of some: which sign, or NONE if the next one is not among them. */
        int oneOf(String some) {
            for (int i = 0; i < some.length(); i++) {
                if (skip(some.charAt(i))) {
                    return some.charAt(i);
                }
            }
            return NONE;
        }

        boolean atDigit() {
            return peek() >= '0' && peek() <= '9';
        }

        int number(int digits) {
            int value = pick('0', '9');
            for (int i = 1; i < digits && atDigit(); i++) {
                value = value * 10 + pick('0', '9');
            }
            return value;
        }

        /** Reads the letter of one of so many BANKS, unlike one that was read. */
        int bankBut(int unlike, int banks) {
            if (unlike != NONE && peek() == 'a' + unlike) {
                refuse();
            }
            return pick('a', 'a' + banks - 1);
        }

        /** Ends the reading, empties THE TEXT: where a sign can't stand, or NONE. */
        int close() {
            if (at < size) {
                refuse();
            }
            size = 0;
            return bad;
        }
    }

    /** The ROW. */
    private static final class Row {
        private final long[] numbers = new long[MOST_CROSSINGS];
        private int size;

        void clear() {
            size = 0;
        }

        void add(long number) {
            if (size < numbers.length) {
                numbers[size] = number;
                size++;
            }
        }

        void tellOne(long number) {
            clear();
            add(number);
        }

        void tellTwo(long first, long second) {
            clear();
            add(first);
            add(second);
        }
    }

    /** BANKS and CROSSINGS, and who gets where by a set of CROSSINGS. */
    private static final class River {
        private int banks;
        private int crossings;
        private final int[] one = new int[MOST_CROSSINGS];
        private final int[] other = new int[MOST_CROSSINGS];
        private final int[] place = new int[MOST_CROSSINGS];
        private final int[] width = new int[MOST_CROSSINGS];
        private final int[] rank = new int[MOST_CROSSINGS];
        private final int[] order = new int[MOST_CROSSINGS];

        void read(Text in) {
            banks = 2 + in.pick('2', '8');
            crossings = 0;
            for (int c = 0; c < MOST_CROSSINGS && in.skip(';'); c++) {
                one[c] = in.bankBut(NONE, banks);
                other[c] = in.bankBut(one[c], banks);
                place[c] = in.number(2);
                in.pick(':', ':');
                width[c] = 1 + in.pick('1', '9');
                crossings = c + 1;
            }
        }

        void orderDown() {
            for (int c = 0; c < crossings; c++) {
                int above = 0;
                for (int x = 0; x < crossings; x++) {
                    if (place[x] < place[c] || place[x] == place[c] && x < c) {
                        above++;
                    }
                }
                rank[c] = above;
                order[above] = c;
            }
        }

        /** The next CROSSING down the river, NONE behind the last. */
        int below(int c) {
            return rank[c] + 1 < crossings ? order[rank[c] + 1] : NONE;
        }

        /** The BANK across from one, NONE if the CROSSING is not at that one. */
        int across(int c, int bank) {
            if (one[c] == bank) {
                return other[c];
            }
            return other[c] == bank ? one[c] : NONE;
        }

        /** BANKS told, and those that are one CROSSING away from them. */
        int spread(int set, int open) {
            int wider = set;
            for (int c = 0; c < crossings; c++) {
                if (has(open, c) && has(set, one[c])) {
                    wider |= 1 << other[c];
                }
                if (has(open, c) && has(set, other[c])) {
                    wider |= 1 << one[c];
                }
            }
            return wider;
        }

        int withinSteps(int bank, int steps, int open) {
            int set = 1 << bank;
            for (int i = 0; i < steps; i++) {
                set = spread(set, open);
            }
            return set;
        }

        int reach(int bank, int open) {
            int set = 1 << bank;
            for (int i = 0; i < banks; i++) {
                int wider = spread(set, open);
                if (wider == set) {
                    return set;
                }
                set = wider;
            }
            return set;
        }

        boolean leads(int from, int to, int open) {
            return has(reach(from, open), to);
        }

        int pairs(int open) {
            int pairs = 0;
            int seen = 0;
            for (int bank = 0; bank < banks; bank++) {
                if (!has(seen, bank)) {
                    int part = reach(bank, open);
                    int size = Integer.bitCount(part);
                    pairs += size * (size - 1) / 2;
                    seen |= part;
                }
            }
            return pairs;
        }

        /** How many CROSSINGS away a BANK is, or NONE. */
        int steps(int from, int to, int open) {
            int set = 1 << from;
            for (int steps = 0; steps < banks; steps++) {
                if (has(set, to)) {
                    return steps;
                }
                set = spread(set, open);
            }
            return NONE;
        }

        /** The least row: at each BANK the first CROSSING behind which the way is a step shorter. */
        void tellWay(Row told, int from, int to, int steps, int open) {
            int bank = from;
            for (int left = steps - 1; left >= 0; left--) {
                int near = withinSteps(to, left, open);
                boolean gone = false;
                for (int c = 0; c < crossings && !gone; c++) {
                    int next = has(open, c) ? across(c, bank) : NONE;
                    if (next != NONE && has(near, next)) {
                        told.add(c);
                        bank = next;
                        gone = true;
                    }
                }
            }
        }
    }

    /** All that hours and deeds change: what undo and again bring back. */
    private static final class State {
        private int bridges;
        private final int[] where = new int[MOST_BRIDGES];
        private final int[] yet = new int[MOST_BRIDGES];
        private final int[] sound = new int[MOST_BRIDGES];
        private final int[] till = new int[MOST_BRIDGES];
        private int people;
        private final int[] bank = new int[MOST_PEOPLE];
        private int now;
        private int broken;

        void become(State from) {
            bridges = from.bridges;
            System.arraycopy(from.where, 0, where, 0, MOST_BRIDGES);
            System.arraycopy(from.yet, 0, yet, 0, MOST_BRIDGES);
            System.arraycopy(from.sound, 0, sound, 0, MOST_BRIDGES);
            System.arraycopy(from.till, 0, till, 0, MOST_BRIDGES);
            people = from.people;
            System.arraycopy(from.bank, 0, bank, 0, MOST_PEOPLE);
            now = from.now;
            broken = from.broken;
        }

        boolean lies(int b) {
            return where[b] != NONE && yet[b] == 0;
        }

        int lyingAt(int c) {
            for (int b = 0; b < bridges; b++) {
                if (where[b] == c && yet[b] == 0) {
                    return b;
                }
            }
            return NONE;
        }

        int comingTo(int c) {
            for (int b = 0; b < bridges; b++) {
                if (where[b] == c && yet[b] > 0) {
                    return b;
                }
            }
            return NONE;
        }

        boolean isFree(int c) {
            return lyingAt(c) == NONE && comingTo(c) == NONE;
        }

        int inShed() {
            int set = 0;
            for (int b = 0; b < bridges; b++) {
                set |= where[b] == NONE && yet[b] == 0 ? 1 << b : 0;
            }
            return set;
        }

        int underTow() {
            int set = 0;
            for (int b = 0; b < bridges; b++) {
                set |= yet[b] > 0 ? 1 << b : 0;
            }
            return set;
        }

        int lent() {
            int set = 0;
            for (int b = 0; b < bridges; b++) {
                set |= till[b] != NONE ? 1 << b : 0;
            }
            return set;
        }
    }

    /** THE RULE, held as steps in the order in which they are reckoned, so that reckoning needs no recursion. */
    private static final class Rule {
        private static final String NAMES = "dulswbn";
        private static final int DEEPEST = 4;
        private static final int COMPARED = 0;
        private static final int SUMMED = 1;
        private static final int MULTIPLIED = 2;
        private static final int FIRST_NAME = 1000;
        private static final int MINUS_AHEAD = 2000;
        private static final int FIRST_SIGN = 3000;

        private int[] code = new int[RULE_SIGNS];
        private int size;
        private int[] draft = new int[RULE_SIGNS];
        private int drafted;
        private final int[] stack = new int[RULE_SIGNS];

        void read(Text in) {
            drafted = 0;
            if (in.peek() != NONE) {
                readLevel(in, COMPARED, 0);
            }
        }

        void adopt() {
            int[] old = code;
            code = draft;
            size = drafted;
            draft = old;
        }

        private void emit(int step) {
            if (drafted < RULE_SIGNS) {
                draft[drafted] = step;
                drafted++;
            }
        }

        private static String signsOf(int level) {
            switch (level) {
                case COMPARED:
                    return "<>=";
                case SUMMED:
                    return "+-";
                default:
                    return "*/";
            }
        }

        private void readLevel(Text in, int level, int depth) {
            if (level > MULTIPLIED) {
                readSigned(in, depth);
                return;
            }
            readLevel(in, level + 1, depth);
            int most = level == COMPARED ? 1 : RULE_SIGNS;
            for (int i = 0; i < most; i++) {
                int sign = in.oneOf(signsOf(level));
                if (sign == NONE) {
                    return;
                }
                readLevel(in, level + 1, depth);
                emit(FIRST_SIGN + sign);
            }
        }

        private void readSigned(Text in, int depth) {
            boolean minus = false;
            for (int i = 0; i < RULE_SIGNS && in.skip('-'); i++) {
                minus = !minus;
            }
            readThing(in, depth);
            if (minus) {
                emit(MINUS_AHEAD);
            }
        }

        private void readThing(Text in, int depth) {
            if (in.atDigit()) {
                emit(in.number(3));
            } else if (depth < DEEPEST && in.skip('(')) {
                readLevel(in, COMPARED, depth + 1);
                in.pick(')', ')');
            } else {
                int name = in.oneOf(NAMES);
                if (name == NONE) {
                    in.refuse();
                } else {
                    emit(FIRST_NAME + NAMES.indexOf((char) name));
                }
            }
        }

        /** What it comes to for things in the order of their names. */
        int reckon(int[] things) {
            if (size == 0) {
                return things[0] / 9 + things[1] * 2 + 1;
            }
            int top = 0;
            for (int i = 0; i < size; i++) {
                int step = code[i];
                if (step < MINUS_AHEAD && top < RULE_SIGNS) {
                    stack[top] = step < FIRST_NAME ? step : things[step - FIRST_NAME];
                    top++;
                } else if (step == MINUS_AHEAD && top > 0) {
                    stack[top - 1] = -stack[top - 1];
                } else if (top > 1) {
                    top--;
                    stack[top - 1] = apply(step - FIRST_SIGN, stack[top - 1], stack[top]);
                }
            }
            return stack[0];
        }

        private static int apply(int sign, int a, int b) {
            switch (sign) {
                case '+':
                    return a + b;
                case '-':
                    return a - b;
                case '*':
                    return a * b;
                case '/':
                    return b == 0 ? 0 : a / b;
                case '<':
                    return a < b ? 1 : 0;
                case '>':
                    return a > b ? 1 : 0;
                default:
                    return a == b ? 1 : 0;
            }
        }
    }

    /** The river with its BRIDGES and PEOPLE, and what can be done there. */
    private static final class Valley {
        private River river = new River();
        private River draft = new River();
        private final State state = new State();
        private final Rule rule = new Rule();
        private final int[] length = new int[MOST_BRIDGES];
        private final int[] weight = new int[MOST_PEOPLE];
        private final int[] things = new int[7];
        private int came;
        private int failed;

        /** The drafted river is the river; BROKEN promises stay, since the document empties only the rest. */
        void settle() {
            River old = river;
            river = draft;
            draft = old;
            river.orderDown();
            state.bridges = 0;
            state.people = 0;
            state.now = 0;
        }

        /** Reads LINES behind the BRIDGES that there are; they count when the caller says so. */
        int readBridges(Text in) {
            int lines = 0;
            boolean more = in.peek() != NONE;
            for (int b = state.bridges; b <= MOST_BRIDGES && more; b++) {
                if (b < MOST_BRIDGES) {
                    length[b] = 1 + in.pick('1', '9');
                    state.sound[b] = in.pick('0', '9');
                    state.where[b] = NONE;
                    state.yet[b] = 0;
                    state.till[b] = NONE;
                } else {
                    in.refuse();
                }
                lines++;
                more = in.skip(';');
            }
            return lines;
        }

        /** Reads LINES behind the PEOPLE that there are; they count when the caller says so. */
        int readPeople(Text in) {
            int lines = 0;
            boolean more = in.peek() != NONE;
            for (int p = state.people; p <= MOST_PEOPLE && more; p++) {
                if (p < MOST_PEOPLE) {
                    state.bank[p] = in.bankBut(NONE, river.banks);
                    weight[p] = 1 + in.pick('1', '9');
                } else {
                    in.refuse();
                }
                lines++;
                more = in.skip(';');
            }
            return lines;
        }

        boolean hasBank(int bank) {
            return bank >= 0 && bank < river.banks;
        }

        boolean hasCrossing(int c) {
            return c >= 0 && c < river.crossings;
        }

        boolean hasBridge(int b) {
            return b >= 0 && b < state.bridges;
        }

        boolean hasPerson(int p) {
            return p >= 0 && p < state.people;
        }

        /** SOUND of all as a sheet of n entries tells it: the sum. */
        int sounds(int kind, int n, int f, int step) {
            int sum = 0;
            for (int b = 0; b < state.bridges; b++) {
                state.sound[b] = b < n ? entry(kind, f + b * step) : 0;
                sum += state.sound[b];
            }
            return sum;
        }

        private static int entry(int kind, int value) {
            int told = value;
            if (kind == 0) {
                told = (byte) value;
            } else if (kind == 1) {
                told = (short) value;
            }
            return Math.max(0, Math.min(9, told));
        }

        int towTime(int b, int c) {
            if (!hasBridge(b) || c != NONE && !hasCrossing(c)) {
                return NONE;
            }
            if (state.yet[b] > 0 || state.where[b] == c) {
                return THERE_OR_TOWED;
            }
            if (c != NONE && length[b] < river.width[c]) {
                return TOO_SHORT;
            }
            if (c != NONE && !state.isFree(c)) {
                return TAKEN;
            }
            return hoursByRule(b, c);
        }

        private int placeOf(int c) {
            return c == NONE ? 0 : river.place[c];
        }

        int hoursByRule(int b, int c) {
            int from = placeOf(state.where[b]);
            int to = placeOf(c);
            things[0] = Math.abs(to - from);
            things[1] = to < from ? 1 : 0;
            things[2] = length[b];
            things[3] = state.sound[b];
            things[4] = c == NONE ? 0 : river.width[c];
            things[5] = b;
            things[6] = state.now % 24;
            return Math.max(1, Math.min(99, rule.reckon(things)));
        }

        int startTow(int b, int c) {
            int hours = towTime(b, c);
            if (hours > 0) {
                state.where[b] = c;
                state.yet[b] = hours;
            }
            return hours;
        }

        int setLoan(int b, int hour) {
            if (!hasBridge(b)) {
                return NO_SUCH_BRIDGE;
            }
            if (hour != NONE && (hour <= state.now || hour > LAST_HOUR)) {
                return ANOTHER_HOUR;
            }
            int before = state.till[b];
            state.till[b] = hour;
            return before;
        }

        int walk(int p, int c) {
            if (!hasPerson(p) || !hasCrossing(c)) {
                return NONE;
            }
            int to = river.across(c, state.bank[p]);
            if (to == NONE) {
                return ELSEWHERE;
            }
            int b = state.lyingAt(c);
            if (b == NONE || state.sound[b] < weight[p]) {
                return NOT_OPEN;
            }
            if (state.sound[b] == weight[p]) {
                state.sound[b]--;
            }
            state.bank[p] = to;
            return to;
        }

        /** Leaves in came and failed which BRIDGES came, and of which promises were BROKEN. */
        void passHours(int n) {
            came = 0;
            failed = 0;
            for (int i = 0; i < n; i++) {
                state.now++;
                comeNearer();
                endLoans();
            }
        }

        private void comeNearer() {
            for (int b = 0; b < state.bridges; b++) {
                if (state.yet[b] > 0) {
                    state.yet[b]--;
                    came |= state.yet[b] == 0 ? 1 << b : 0;
                }
            }
        }

        private void endLoans() {
            for (int b = 0; b < state.bridges; b++) {
                if (state.till[b] == state.now) {
                    state.till[b] = NONE;
                    if (state.where[b] != NONE || state.yet[b] > 0) {
                        state.broken++;
                        failed |= 1 << b;
                    }
                }
            }
        }

        /** CROSSINGS that are OPEN for a weight so many HOURS from now. */
        int openFor(int load, int hours) {
            int open = 0;
            for (int b = 0; b < state.bridges; b++) {
                if (state.where[b] != NONE && state.yet[b] <= hours && state.sound[b] >= load) {
                    open |= 1 << state.where[b];
                }
            }
            return open;
        }

        int tooShortBy(int v) {
            int swept = 0;
            for (int b = 0; b < state.bridges; b++) {
                if (state.lies(b) && length[b] < river.width[state.where[b]] + v) {
                    swept |= 1 << state.where[b];
                }
            }
            return swept;
        }

        private boolean canMove(int b, int c) {
            return state.yet[b] == 0 && length[b] >= river.width[c] && state.isFree(c);
        }

        private int openWithMove(int open, int b, int c, int load) {
            int left = state.where[b] == NONE ? open : open & ~(1 << state.where[b]);
            return state.sound[b] >= load ? left | 1 << c : left;
        }

        boolean byOneMove(Row told, int p, int bank, int open) {
            for (int b = 0; b < state.bridges; b++) {
                for (int c = 0; c < river.crossings; c++) {
                    if (canMove(b, c) && river.leads(state.bank[p], bank, openWithMove(open, b, c, weight[p]))) {
                        told.tellTwo(b, c);
                        return true;
                    }
                }
            }
            return false;
        }

        boolean byTwoMoves(Row told, int p, int bank, int open) {
            for (int b = 0; b < state.bridges; b++) {
                for (int c = 0; c < river.crossings; c++) {
                    if (canMove(b, c) && bySecondMove(told, p, bank, open, b, c)) {
                        return true;
                    }
                }
            }
            return false;
        }

        private boolean bySecondMove(Row told, int p, int bank, int open, int first, int taken) {
            int opened = openWithMove(open, first, taken, weight[p]);
            for (int b = first + 1; b < state.bridges; b++) {
                for (int c = 0; c < river.crossings; c++) {
                    if (c != taken && canMove(b, c)
                            && river.leads(state.bank[p], bank, openWithMove(opened, b, c, weight[p]))) {
                        told.tellTwo(first, taken);
                        told.add(b);
                        told.add(c);
                        return true;
                    }
                }
            }
            return false;
        }

        /** The HOUR in which a BRIDGE would be in THE SHED; NONE if it is towed elsewhere. */
        int homeHour(int b) {
            if (state.where[b] == NONE) {
                return state.now + state.yet[b];
            }
            return state.yet[b] > 0 ? NONE : state.now + hoursByRule(b, NONE);
        }
    }

    /** BRIDGES laid out anew, all of them, wherever they are. */
    private static final class Layouts {
        /** WIDTHS and LENGTHS 1 .. 9, and a 0 that nothing has. */
        private static final int WIDTHS = 10;

        private final Valley valley;
        private final int[] wishes = new int[MOST_ERRANDS];
        private int size;
        private final int[] wide = new int[WIDTHS];
        private final int[] enough = new int[WIDTHS];

        Layouts(Valley valley) {
            this.valley = valley;
        }

        /** All BRIDGES; and by each WIDTH who is so long, so that fits() need not look at each again. */
        int muster() {
            for (int w = 0; w < WIDTHS; w++) {
                wide[w] = 0;
                enough[w] = 0;
                for (int c = 0; c < valley.river.crossings; c++) {
                    wide[w] |= valley.river.width[c] >= w ? 1 << c : 0;
                }
                for (int b = 0; b < valley.state.bridges; b++) {
                    enough[w] |= valley.length[b] >= w ? 1 << b : 0;
                }
            }
            return (1 << valley.state.bridges) - 1;
        }

        /** Who is long enough for a WIDTH is so for each lesser one: counting them for each WIDTH is enough. */
        boolean fits(int those, int crew) {
            for (int w = 1; w < WIDTHS; w++) {
                if (Integer.bitCount(those & wide[w]) > Integer.bitCount(crew & enough[w])) {
                    return false;
                }
            }
            return true;
        }

        void tellLeast(Row told, int those, int crew) {
            int rest = those;
            int idle = crew;
            for (int c = 0; c < valley.river.crossings; c++) {
                if (has(those, c)) {
                    rest &= ~(1 << c);
                    int b = firstFor(c, rest, idle);
                    told.add(b);
                    idle &= b == NONE ? idle : ~(1 << b);
                }
            }
        }

        /** The first BRIDGE for a CROSSING with which the others are enough for the rest. */
        private int firstFor(int c, int rest, int idle) {
            for (int b = 0; b < valley.state.bridges; b++) {
                if (has(idle, b) && valley.length[b] >= valley.river.width[c] && fits(rest, idle & ~(1 << b))) {
                    return b;
                }
            }
            return NONE;
        }

        /** One set of BANKS that are all to be JOINED. */
        void wish(int banks) {
            wishes[0] = banks;
            size = 1;
        }

        void readErrands(Text in) {
            size = 0;
            boolean more = true;
            for (int i = 0; i <= MOST_ERRANDS && more; i++) {
                if (i < MOST_ERRANDS) {
                    int from = in.bankBut(NONE, valley.river.banks);
                    wishes[i] = 1 << from | 1 << in.bankBut(from, valley.river.banks);
                    size = i + 1;
                } else {
                    in.refuse();
                }
                more = in.skip(',');
            }
        }

        private boolean grants(int those) {
            for (int i = 0; i < size; i++) {
                int banks = wishes[i];
                int first = Integer.numberOfTrailingZeros(banks);
                if (banks != 0 && (banks & ~valley.river.reach(first, those)) != 0) {
                    return false;
                }
            }
            return true;
        }

        int tellFewest(Row told) {
            int best = NONE;
            int fewest = MOST_CROSSINGS + 1;
            int crew = muster();
            for (int those = 0; those < 1 << valley.river.crossings; those++) {
                if (Integer.bitCount(those) < fewest && fits(those, crew) && grants(those)) {
                    best = those;
                    fewest = Integer.bitCount(those);
                }
            }
            if (best == NONE) {
                return CANT;
            }
            told.tellOne(best);
            return fewest;
        }

        int tellBest(Row told) {
            int best = 0;
            int most = 0;
            int crew = muster();
            for (int those = 0; those < 1 << valley.river.crossings; those++) {
                if (fits(those, crew)) {
                    int pairs = valley.river.pairs(those);
                    if (pairs > most || pairs == most && Integer.bitCount(those) < Integer.bitCount(best)) {
                        most = pairs;
                        best = those;
                    }
                }
            }
            told.tellOne(best);
            return most;
        }
    }

    /** BRIDGES that drift down the river, by chances and by draws. */
    private static final class Drifting {
        private static final int MOST_NIGHTS = 12;

        private final Valley valley;
        private final State dream = new State();
        /** By how far down the river a CROSSING is among all: its part of whole. */
        private final long[] chances = new long[MOST_CROSSINGS];
        private long whole = 1;

        Drifting(Valley valley) {
            this.valley = valley;
        }

        boolean accepts(int p, int n) {
            return p >= 0 && p <= 10 && n >= 0 && n <= MOST_NIGHTS;
        }

        void spreadChances(int c, int p, int nights) {
            for (int i = 0; i < MOST_CROSSINGS; i++) {
                chances[i] = 0;
            }
            chances[valley.river.rank[c]] = 1;
            whole = 1;
            for (int night = 0; night < nights; night++) {
                passNight(p);
                whole *= 10;
            }
        }

        private void passNight(int p) {
            int last = valley.river.crossings - 1;
            for (int i = last; i >= 0; i--) {
                int stays = i == last ? 10 : 10 - p;
                long comes = i > 0 ? chances[i - 1] * p : 0;
                chances[i] = chances[i] * stays + comes;
            }
        }

        int likeliest() {
            int best = 0;
            for (int i = 1; i < valley.river.crossings; i++) {
                if (chances[i] > chances[best]) {
                    best = i;
                }
            }
            return valley.river.order[best];
        }

        void tellChance(Row told, int c) {
            long part = chances[valley.river.rank[c]];
            long common = commonDivisor(part, whole);
            if (common > 0) {
                told.tellTwo(part / common, whole / common);
            }
        }

        private static long commonDivisor(long a, long b) {
            long rest = a;
            long common = b;
            for (int i = 0; i < 100 && rest != 0; i++) {
                long next = common % rest;
                common = rest;
                rest = next;
            }
            return common;
        }

        int tellYears(Row told, int seed, int nights) {
            dream.become(valley.state);
            int random = seed;
            int sheds = 0;
            int pairs = 0;
            int fewest = NONE;
            for (int night = 0; night < nights && dream.bridges > 0; night++) {
                random = random * 1103515245 + 12345;
                int b = (random >>> 16) % dream.bridges;
                sheds += driftsToShed(b) ? 1 : 0;
                pairs = dreamedPairs();
                fewest = fewest == NONE ? pairs : Math.min(fewest, pairs);
            }
            told.tellTwo(sheds, fewest);
            return pairs;
        }

        private boolean driftsToShed(int b) {
            int next = dream.lies(b) ? valley.river.below(dream.where[b]) : NONE;
            if (next == NONE) {
                return false;
            }
            if (dream.isFree(next) && valley.length[b] >= valley.river.width[next]) {
                dream.where[b] = next;
                return false;
            }
            dream.where[b] = NONE;
            return true;
        }

        private int dreamedPairs() {
            int open = 0;
            for (int b = 0; b < dream.bridges; b++) {
                open |= dream.lies(b) ? 1 << dream.where[b] : 0;
            }
            return valley.river.pairs(open);
        }
    }

    /** What was found out of the stolen BRIDGE. */
    private static final class Finds {
        private static final int MOST = 12;
        private static final int VALUES = 19;
        private static final int KINDS = 4;
        private static final int QUESTIONS = VALUES * KINDS;

        private final Valley valley;
        private final int[] questions = new int[MOST];
        private final boolean[] answers = new boolean[MOST];
        private int size;

        Finds(Valley valley) {
            this.valley = valley;
        }

        static boolean isQuestion(int what, int v) {
            switch (what) {
                case 0:
                case 1:
                    return v >= 0 && v <= 18;
                case 2:
                    return v >= 0 && v <= 6;
                case 3:
                    return v == 0 || v == 1;
                default:
                    return false;
            }
        }

        int add(int what, int v, int is) {
            if (!isQuestion(what, v) || is < 0 || is > 1 || size >= MOST) {
                return NONE;
            }
            questions[size] = VALUES * what + v;
            answers[size] = is == 1;
            size++;
            return size;
        }

        private boolean isSo(int question, int b) {
            int v = question % VALUES;
            switch (question / VALUES) {
                case 0:
                    return valley.length[b] >= v;
                case 1:
                    return valley.state.sound[b] >= v;
                case 2:
                    return (valley.length[b] + valley.state.sound[b]) % 7 == v;
                default:
                    return b % 2 == v;
            }
        }

        private boolean fits(int b) {
            for (int i = 0; i < size; i++) {
                if (isSo(questions[i], b) != answers[i]) {
                    return false;
                }
            }
            return true;
        }

        int fitting() {
            int set = 0;
            for (int b = 0; b < valley.state.bridges; b++) {
                set |= fits(b) ? 1 << b : 0;
            }
            return set;
        }

        /** How many of a set are left at most, whichever the answer is. */
        int mostLeft(int question, int set) {
            int so = 0;
            for (int b = 0; b < valley.state.bridges; b++) {
                so += has(set, b) && isSo(question, b) ? 1 : 0;
            }
            return Math.max(so, Integer.bitCount(set) - so);
        }
    }

    /** A DAY's ACTS, all read ahead of the first that is done. */
    private static final class Day {
        /** 60 signs hold 20 ACTS; behind a ; at their very end one more is looked for. */
        private static final int MOST_ACTS = 21;

        private final int[] kind = new int[MOST_ACTS];
        private final int[] first = new int[MOST_ACTS];
        private final int[] second = new int[MOST_ACTS];
        private int size;

        void read(Text in) {
            size = 0;
            boolean more = in.peek() != NONE;
            for (int i = 0; i < MOST_ACTS && more; i++) {
                readAct(in, i);
                size = i + 1;
                more = in.skip(';');
            }
        }

        private void readAct(Text in, int i) {
            kind[i] = in.oneOf("tlch");
            switch (kind[i]) {
                case 't':
                    first[i] = in.pick('0', '9');
                    second[i] = in.skip('-') ? NONE : in.pick('0', '9');
                    break;
                case 'l':
                    first[i] = in.pick('0', '9');
                    second[i] = in.number(3);
                    break;
                case 'c':
                    first[i] = in.pick('a', 'f');
                    second[i] = in.pick('0', '9');
                    break;
                case 'h':
                    first[i] = in.number(2);
                    break;
                default:
                    in.refuse();
                    break;
            }
        }

        /** Does ACTS till one is refused: how many were done. */
        int perform(Valley valley) {
            int done = 0;
            for (int i = 0; i < size && done == i; i++) {
                done += doesAct(valley, i) ? 1 : 0;
            }
            return done;
        }

        private boolean doesAct(Valley valley, int i) {
            switch (kind[i]) {
                case 't':
                    return valley.startTow(first[i], second[i]) >= 0;
                case 'l':
                    return valley.setLoan(first[i], valley.state.now + second[i]) >= NONE;
                case 'c':
                    return valley.walk(first[i], second[i]) >= 0;
                default:
                    valley.passHours(first[i]);
                    return true;
            }
        }
    }

    /** States to which undo and again go back. */
    private static final class Memory {
        private static final int MOST_UNDONE = 15;
        private static final int MOST_KEPT = 3;

        /** One more than can be undone: a call notes the state there before it is known whether it is refused. */
        private final State[] ring = new State[MOST_UNDONE + 1];
        private int next;
        private int size;
        private final State[] shelf = new State[MOST_KEPT];
        private final boolean[] shelved = new boolean[MOST_KEPT];

        Memory() {
            for (int i = 0; i < ring.length; i++) {
                ring[i] = new State();
            }
            for (int i = 0; i < MOST_KEPT; i++) {
                shelf[i] = new State();
            }
        }

        void note(State state) {
            ring[next].become(state);
        }

        void holdIf(boolean done) {
            if (done) {
                next = (next + 1) % ring.length;
                size = Math.min(size + 1, MOST_UNDONE);
            }
        }

        State takeLatest() {
            next = (next + MOST_UNDONE) % ring.length;
            size--;
            return ring[next];
        }

        void forgetPast() {
            size = 0;
        }

        void forgetAll() {
            forgetPast();
            for (int i = 0; i < MOST_KEPT; i++) {
                shelved[i] = false;
            }
        }

        boolean shelve(int i, State state) {
            if (i < 0 || i >= MOST_KEPT) {
                return false;
            }
            shelf[i].become(state);
            shelved[i] = true;
            return true;
        }

        boolean canReturnTo(int i, State state) {
            return i >= 0 && i < MOST_KEPT && shelved[i]
                    && shelf[i].bridges == state.bridges && shelf[i].people == state.people;
        }
    }
}
