/** Promises 37 to 41: each bound that they name. */
final class EdgesOfLoans {
    private static final int NONE = BridgesAreLent.NONE;
    private static final int ALL = 0xFFFFFF;

    private EdgesOfLoans() {
    }

    static void all() {
        shareTurns();
        shareBits();
        shareHas();
        shareRow();
        shareNone();
        turnMost();
        turnLeast();
        turnRow();
        turnNone();
        restsGains();
        restsPairs();
        restsRow();
        restsNone();
        homeBroken();
        homeTowed();
        homeRow();
        yearsNights();
        yearsDrift();
        yearsFree();
        yearsRow();
        yearsNone();
        yearsChangeNothing();
        draws();
        laterDraws();
    }

    private static void shareTurns() {
        Doc.says(37, "Two share a BRIDGE for n HOURS (1 .. 48) by turns of k HOURS (1 .. 48), the first begins;");
        for (int n = 1; n <= 48; n++) {
            for (int k = 1; k <= 48; k++) {
                BridgesAreLent x = new BridgesAreLent();
                int first = n / (2 * k) * k + Math.min(n % (2 * k), k);
                Check.due("n " + n + ", k " + k + ", the first", x, x.share(ALL, 0, n, k), first, n - first, 0);
                Check.due("n " + n + ", k " + k + ", the second", x, x.share(0, ALL, n, k), n - first, 0, first);
            }
        }
    }

    private static void shareBits() {
        Doc.says(37, "each wants it in HOURS by its own bits (HOUR h by 24, bits 0 .. 23 of one, other):");
        for (int h = 0; h < 24; h++) {
            BridgesAreLent x = new BridgesAreLent();
            Check.due("hour " + h, x, x.share(1 << h, 0, h + 1, 48), 1, 0, 0);
            Check.due("hour " + h + ", an hour too few", x, x.share(1 << h, 0, Math.max(1, h), 48), h == 0 ? 1 : 0, 0, 0);
            Check.due("hour " + h + " of the next day", x, x.share(1 << h, 0, 24 + h + 1, 48), 2, 0, 0);
            Check.due("hour " + h + " of the second one's day", x, x.share(0, 1 << h, 48, 24), 1, 0, 1);
        }
        BridgesAreLent y = new BridgesAreLent();
        Check.due("all bits", y, y.share(ALL, ALL, 48, 7), 48, 21, 27);
    }

    private static void shareHas() {
        Doc.says(37, "in how many HOURS who has it wants it;");
        BridgesAreLent x = new BridgesAreLent();
        Check.due("none wants it", x, x.share(0, 0, 48, 1), 0, 0, 0);
        Check.due("each in its own hours", x, x.share(0x555555, 0xAAAAAA, 48, 1), 48, 0, 0);
        Check.due("each in the other's hours", x, x.share(0xAAAAAA, 0x555555, 48, 1), 0, 24, 24);
        x.hours(1);
        Check.due("hours count from the turns' beginning, not from NOW", x, x.share(0x555555, 0xAAAAAA, 48, 1), 48, 0, 0);
    }

    private static void shareRow() {
        Doc.says(37, "the ROW: in how many the first wants it and the second has it, in how many the second wants it and the first has"
                + " it.");
        BridgesAreLent x = new BridgesAreLent();
        Check.due("the first in hours 2, 3; the second in hour 0", x, x.share(0b1101, 0b1001, 4, 2), 2, 2, 1);
        Check.due("both always", x, x.share(ALL, ALL, 3, 1), 3, 1, 2);
    }

    private static void shareNone() {
        Doc.says(37, "NONE: others (bits above 23, too).");
        Edges.Making made = () -> new BridgesAreLent();
        BridgesAreLent x = made.object();
        Check.due("the greatest of all", x, x.share(ALL, ALL, 48, 48), 48, 0, 48);
        Edges.outside("n", made, 1, 48, (o, n) -> o.share(1, 1, n, 1), NONE);
        Edges.outside("k", made, 1, 48, (o, k) -> o.share(1, 1, 1, k), NONE);
        for (int bit = 24; bit < 32; bit++) {
            int above = 1 << bit;
            BridgesAreLent y = new BridgesAreLent();
            Check.refused("bit " + bit + " of one", y, () -> y.share(above, 1, 1, 1), NONE);
            Check.refused("bit " + bit + " of the other", y, () -> y.share(1, above, 1, 1), NONE);
            Check.refused("bit " + bit + " of both, and others", y, () -> y.share(above | 1, above | 1, 1, 1), NONE);
        }
        Check.refused("all bits", x, () -> x.share(-1, -1, 1, 1), NONE);
    }

    private static void turnMost() {
        Doc.says(38, "The k (1 .. 24) with which that sum, for n HOURS, is the most;");
        BridgesAreLent x = new BridgesAreLent();
        for (int k = 1; k <= 24; k++) {
            int hours = Math.min(24, 2 * k);
            int first = (1 << k) - 1;
            Check.due("the first wants " + k + " hours, the second the rest", x.turn(first, ALL & ~first, hours), k);
        }
        Check.due("24 alone", x, x.turn(ALL, 0, 24), 24, 24);
        Check.due("never 25", x, x.turn(ALL, 0, 25), 24, 24);
        Check.due("two turns of 16 in 48 hours", x, x.turn(ALL, 0, 48), 16, 32);
    }

    private static void turnLeast() {
        Doc.says(38, "of equal ones the least: it;");
        BridgesAreLent x = new BridgesAreLent();
        Check.due("none wants it", x.turn(0, 0, 48), 1);
        Check.due("both always", x.turn(ALL, ALL, 48), 1);
        Check.due("5 to 24 are equal", x.turn(ALL, 0, 5), 5);
        Check.due("an hour", x.turn(ALL, ALL, 1), 1);
    }

    private static void turnRow() {
        Doc.says(38, "the ROW: the sum.");
        BridgesAreLent x = new BridgesAreLent();
        Check.due("none", x, x.turn(0, 0, 48), 1, 0);
        Check.due("all", x, x.turn(0x555555, 0xAAAAAA, 48), 1, 48);
        Check.due("some", x, x.turn(0b1111, 0b0110, 4), 4, 4);
        Check.due("as share() tells it", x.row(0), x.share(0b1111, 0b0110, 4, 4));
    }

    private static void turnNone() {
        Doc.says(38, "NONE: likewise.");
        Edges.Making made = () -> new BridgesAreLent();
        BridgesAreLent x = made.object();
        Edges.taken("n", 1, 48, n -> x.turn(1, 2, n));
        Edges.outside("n", made, 1, 48, (o, n) -> o.turn(1, 2, n), NONE);
        for (int bit = 24; bit < 32; bit++) {
            int above = 1 << bit;
            BridgesAreLent y = new BridgesAreLent();
            Check.refused("bit " + bit + " of one", y, () -> y.turn(above, 1, 1), NONE);
            Check.refused("bit " + bit + " of the other", y, () -> y.turn(1, above, 1), NONE);
        }
    }

    private static void restsGains() {
        Doc.says(39, "Two lenders ask prices 1 .. 9 for a like BRIDGE; who is cheaper lends it and gets its price less c (0 .. 9);"
                + " of like prices each gets half of that (cut); else 0.");
        BridgesAreLent x = new BridgesAreLent();
        // c 0: 1 1, 1 2, 2 1, 2 2, since half of 1 is cut to 0 and half of 2 is 1; 3 3 is undercut by 2
        Check.due("c 0", x.rests(0), 4);
        // c 9: 9 9 gets 0 each; 8 8 gets half of -1, cut to 0; of 7 7 each gets -1, and 0 by a price above
        Check.due("c 9", x.rests(9), 2);
        // c 8: 7 7, 8 8, 8 9, 9 8, 9 9, where half of 1 is cut to 0
        Check.due("c 8", x.rests(8), 5);
    }

    private static void restsPairs() {
        Doc.says(39, "Pairs of prices in which neither would get more by another price alone: how many;");
        int[] pairs = {4, 7, 8, 8, 8, 8, 8, 8, 5, 2};
        BridgesAreLent x = new BridgesAreLent();
        for (int c = 0; c <= 9; c++) {
            Check.due("c " + c, x.rests(c), pairs[c]);
        }
    }

    private static void restsRow() {
        Doc.says(39, "the ROW: the least (the first's, the second's; nothing without).");
        int[] least = {1, 1, 1, 2, 3, 4, 5, 6, 7, 8};
        BridgesAreLent x = new BridgesAreLent();
        for (int c = 0; c <= 9; c++) {
            x.rests(c);
            Check.row("c " + c, x, least[c], least[c]);
        }
    }

    private static void restsNone() {
        Doc.says(39, "NONE: another c.");
        Edges.Making made = () -> new BridgesAreLent();
        BridgesAreLent x = made.object();
        Edges.taken("rests", 0, 9, x::rests);
        Edges.outside("rests", made, 0, 9, BridgesAreLent::rests, NONE);
    }

    private static void homeBroken() {
        Doc.says(40, "BRIDGES (bits) of which promises would be BROKEN, if each that is lent and is at a CROSSING began its tow to THE"
                + " SHED now");
        // it is hour 1, and a tow to THE SHED takes 4 hours
        for (int hour = 2; hour <= 9; hour++) {
            BridgesAreLent x = Check.laid("2;ab9:1;ab10:1", "19;19;19", "", 0, 1);
            x.lend(0, hour);
            x.lend(2, hour);
            Check.due("lent till " + hour, x.home(), hour < 5 ? 1 : 0);
            Check.due("no tow begins", x.crossing(0, 4), 0);
            x.tow(0, NONE);
            x.hours(hour - 1);
            Check.due("so it is, lent till " + hour, x.count(8), hour < 5 ? 1 : 0);
        }
        BridgesAreLent y = Check.laid("2;ab9:1;ab10:1", "19;19", "", 0, 1);
        Check.due("none is lent", y, y.home(), 0, 1);
        y.lend(0, 2);
        y.lend(1, 2);
        Check.due("both", y, y.home(), 3, 1);
        Check.rule(y, "b+1");
        Check.due("by the rule as it is", y, y.home(), 2, 2);
        Check.due("a new object", new BridgesAreLent().home(), 0);
    }

    private static void homeTowed() {
        Doc.says(40, "(those that are lent and towed to a CROSSING: they would; towed to THE SHED: they go on): bits;");
        BridgesAreLent x = Check.laid("2;ab9:1;ab10:1", "19;19;19", "", 0);
        x.tow(1, 1);
        x.lend(1, 999999);
        Check.due("towed to a crossing, however long it is lent", x, x.home(), 2, 1);
        x.hours(x.bridge(1, 3) - 1);
        Check.due("an hour yet", x, x.home(), 2, 2);
        x.hours(1);
        Check.due("it came there", x, x.home(), 0, 7);
        x.tow(0, NONE);
        int there = x.count(4) + x.bridge(0, 3);
        x.lend(0, there);
        x.lend(1, NONE);
        Check.due("towed to the shed, just in time", x, x.home(), 0, there);
        x.hours(1);
        Check.due("it goes on", x, x.home(), 0, there);
        x.lend(0, there - 1);
        Check.due("an hour too late", x, x.home(), 1, x.count(4));
        x.lend(0, NONE);
        Check.due("not lent", x, x.home(), 0, x.count(4));
    }

    private static void homeRow() {
        Doc.says(40, "the ROW: the HOUR in which the last of those that are lent and would not is there (NOW, if none has to come).");
        BridgesAreLent x = Check.laid("2;ab9:1;ab18:1;ab27:1", "19;19;19;19", "", 0, 1, 2);
        Check.due("none is lent", x, x.home(), 0, 1);
        x.lend(3, 9);
        Check.due("one in the shed is there", x, x.home(), 0, 1);
        x.lend(0, 50);
        Check.due("one", x, x.home(), 0, 5);
        x.lend(1, 50);
        Check.due("the last of two", x, x.home(), 0, 6);
        x.lend(2, 6);
        Check.due("one of which it would be broken does not count", x, x.home(), 4, 6);
        x.lend(2, 7);
        Check.due("just in time", x, x.home(), 0, 7);
        x.hours(3);
        Check.due("as many hours later", x, x.home(), 4, 9);
        BridgesAreLent y = new BridgesAreLent();
        y.hours(99);
        Check.due("no bridges", y, y.home(), 0, 99);
    }

    private static void yearsNights() {
        Doc.says(41, "n nights (1 .. 60): in each a DRAW of how many BRIDGES there are tells one, which, if it is at a CROSSING,");
        // a DRAW of one bridge is always that one: a CROSSING farther in each night, till it is too wide
        for (int n = 1; n <= 60; n++) {
            BridgesAreLent x = Check.laid("2;ab0:1;ab1:1;ab2:1;ab3:1;ab4:1;ab5:1;ab6:1;ab7:1;ab8:1;ab9:2", "19", "", 0);
            Check.due("nights " + n, x, x.years(77, n), n < 9 ? 1 : 0, n < 9 ? 0 : 1, n < 9 ? 1 : 0);
        }
        BridgesAreLent y = Check.object("2;ab9:1;ab10:2", "19", "");
        Check.due("in the shed", y, y.years(77, 60), 0, 0, 0);
        y.tow(0, 0);
        Check.due("towed there", y, y.years(77, 60), 0, 0, 0);
        y.hours(2);
        Check.due("there", y, y.years(77, 60), 0, 1, 0);
        y.tow(0, NONE);
        Check.due("towed to the shed", y, y.years(77, 60), 0, 0, 0);
    }

    private static void yearsDrift() {
        Doc.says(41, "drifts to the next down the river (as drift()),");
        // down the river: 4, 1, 2, 0, 3; each joins other BANKS
        BridgesAreLent x = Check.laid("5;ab50:1;bc10:1;ad10:1;ae99:2;bd0:1", "19;19", "", 4);
        BridgesAreLent y = Check.laid("5;ab50:1;bc10:1;ad10:1;ae99:2;bd0:1", "19", "", 4);
        Check.due("by way of four, then too wide", y, y.years(5, 4), 0, 1, 0);
        Check.due("three nights", y, y.years(5, 3), 1, 0, 1);
        Check.due("the first night, two bridges", x, x.years(0, 1), 1, 0, 1);
        BridgesAreLent z = Check.laid("3;ab5:1", "19", "", 0);
        Check.due("from the last it stays", z, z.years(5, 60), 1, 0, 1);
        BridgesAreLent w = Check.laid("2" + Check.times(";ab7:1", 3), "19;29", "", 2, 0);
        Check.due("from the last of like places it stays", w, w.years(0, 1), 1, 0, 1);
    }

    private static void yearsFree() {
        Doc.says(41, "if that is free (none there or towed there) and it is long enough, else it is in THE SHED: PAIRS behind these;");
        // seed 0 draws bridge 0 of two in each of the first three nights
        BridgesAreLent x = Check.laid("3;ab1:1;bc2:1;ac3:1", "19;19", "", 0, 1);
        Check.due("another is there", x, x.years(0, 1), 1, 1, 1);
        x.tow(1, NONE);
        Check.due("another is towed away", x, x.years(0, 1), 1, 0, 1);
        x.hours(9);
        x.tow(1, 1);
        Check.due("another is towed there", x, x.years(0, 1), 0, 1, 0);
        Check.due("nor does it come in these nights", x, x.years(0, 60), 0, 1, 0);
        for (int length = 4; length <= 6; length++) {
            BridgesAreLent y = Check.laid("3;ab1:4;bc2:5", length + "9", "", 0);
            Check.due("width 5, length " + length, y, y.years(0, 1), length < 5 ? 0 : 1, length < 5 ? 1 : 0, length < 5 ? 0 : 1);
        }
        BridgesAreLent z = Check.laid("3;ab1:1;ab2:2;bc3:1", "19;19", "", 0, 2);
        Check.due("pairs behind these", z, z.years(0, 1), 1, 1, 1);
        Check.due("pairs now", z.count(13), 3);
    }

    private static void yearsRow() {
        Doc.says(41, "the ROW: how often one came to THE SHED, the fewest PAIRS behind any night.");
        // seed 1 draws of two: 0 0 1 1 1 1 0 1; a - b, then b - c beside another, then a - b again
        BridgesAreLent x = Check.laid("3;ab1:1;bc2:1;ab3:1;bc99:1", "19;19", "", 0, 3);
        Check.due("one night", x, x.years(1, 1), 1, 0, 1);
        Check.due("two nights", x, x.years(1, 2), 3, 0, 1);
        Check.due("six nights", x, x.years(1, 6), 3, 0, 1);
        Check.due("seven nights", x, x.years(1, 7), 1, 1, 1);
        BridgesAreLent y = Check.laid("3;bc1:1;ab2:1;bc99:1", "19;19", "", 0, 2);
        Check.due("not those ahead of the first night", y, y.years(1, 1), 3, 0, 3);
        Check.due("one pair ahead of it", y.count(13), 1);
        // seed 0 draws of six: 0 2 0 3 0 3 1 3 4 4 5 4
        BridgesAreLent z = Check.laid("3;ab1:1;ab2:1;ab3:1;ab4:1;ab5:1;ab6:1;ab7:9", "19;19;19;19;19;19", "", 0, 1, 2, 3, 4, 5);
        Check.due("eight nights: three", z, z.years(0, 8), 1, 3, 1);
        Check.due("eleven nights: all but one", z, z.years(0, 11), 1, 5, 1);
    }

    private static void yearsNone() {
        Doc.says(41, "NONE: another n, no BRIDGES.");
        Edges.Making made = () -> Check.laid("2;ab1:1", "19", "", 0);
        BridgesAreLent x = made.object();
        Edges.taken("years", 1, 60, n -> x.years(1, n));
        Edges.outside("years", made, 1, 60, (o, n) -> o.years(1, n), NONE);
        BridgesAreLent y = Check.object("2;ab1:1", "", "");
        Check.refused("no bridges", y, () -> y.years(1, 1), NONE);
        Check.due("a new object", new BridgesAreLent().years(1, 60), NONE);
    }

    private static void yearsChangeNothing() {
        Doc.says(41, "(Nothing changes.)");
        for (int seed = -9; seed <= 9; seed++) {
            BridgesAreLent x = Check.laid("3;ab1:1;bc2:1;ac3:9", "19;19;19", "a1", 0);
            x.tow(1, 1);
            x.lend(0, 9);
            String before = Check.things(x);
            x.years(seed, 60);
            Check.due("seed " + seed, Check.things(x), before);
            Check.due("what can be undone", x.count(10), 2);
        }
    }

    /** What the document's own formula draws, reckoned in longs. */
    private static int[] drawn(int seed, int of, int nights) {
        int[] all = new int[nights];
        long random = seed & 0xFFFFFFFFL;
        for (int i = 0; i < nights; i++) {
            random = (random * 1103515245L + 12345L) % 4294967296L;
            all[i] = (int) (random / 65536 % of);
        }
        return all;
    }

    /** So many BRIDGES, of which one is at a CROSSING, the next of which is too wide: drawn, it is in THE SHED. */
    private static BridgesAreLent oneLaid(int bridges, int b) {
        int[] where = new int[bridges];
        for (int i = 0; i < bridges; i++) {
            where[i] = i == b ? 0 : NONE;
        }
        return Check.laid("2;ab1:1;ab2:9", Check.times("19;", bridges - 1) + "19", "", where);
    }

    private static void draws() {
        Doc.says(41, "A DRAW of n: R = R times 1103515245 + 12345 (as ints; R is seed at first),");
        int[] seeds = {0, 1, -1, 2, 65536, -65536, 123456789, Edges.LOWEST, Edges.GREATEST};
        for (int bridges = 1; bridges <= 6; bridges++) {
            for (int b = 0; b < bridges; b++) {
                BridgesAreLent x = oneLaid(bridges, b);
                for (int seed : seeds) {
                    boolean hit = drawn(seed, bridges, 1)[0] == b;
                    Check.due("seed " + seed + ", bridge " + b + " of " + bridges, x, x.years(seed, 1), hit ? 0 : 1, hit ? 1 : 0, hit ? 0 : 1);
                }
            }
        }
    }

    private static void laterDraws() {
        Doc.says(41, "(R without sign, by 65536) % n.");
        int[] seeds = {0, 1, -1, 7, Edges.LOWEST, Edges.GREATEST};
        for (int b = 0; b < 6; b++) {
            BridgesAreLent x = oneLaid(6, b);
            for (int seed : seeds) {
                boolean hit = false;
                int[] all = drawn(seed, 6, 30);
                for (int n = 1; n <= all.length; n++) {
                    hit |= all[n - 1] == b;
                    Check.due("seed " + seed + ", bridge " + b + ", nights " + n, x.years(seed, n), hit ? 0 : 1);
                }
            }
        }
    }
}
