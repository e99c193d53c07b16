/** Promises 31 to 36: each bound that they name. */
final class EdgesOfChance {
    private static final int NONE = BridgesAreLent.NONE;
    /** Down the river: 4 (PLACE 0), 1 and 2 (PLACE 10), 0 (PLACE 50), 3 (PLACE 99). */
    private static final String DOWN = "3;ab50:9;bc10:9;ab10:1;bc99:9;ac0:1";
    private static final String TEN = "2;ab0:1;ab1:1;ab2:1;ab3:1;ab4:1;ab5:1;ab6:1;ab7:1;ab8:1;ab9:1";

    private EdgesOfChance() {
    }

    static void all() {
        driftTenths();
        driftDown();
        driftLast();
        driftNights();
        driftNotThere();
        driftNone();
        seekLikeliest();
        seekRow();
        seekLikewise();
        foundLength();
        foundSound();
        foundRest();
        foundNumber();
        foundIs();
        foundRefused();
        forget();
        stolenFit();
        stolenRow();
        askWhat();
        askFewest();
        askRow();
        askNoneFits();
    }

    private static void driftTenths() {
        Doc.says(31, "A BRIDGE at a CROSSING drifts: in each night, with p tenths (0 .. 10), to the next CROSSING down the river");
        int[][] tenths = {{0, 1}, {1, 10}, {1, 5}, {3, 10}, {2, 5}, {1, 2}, {3, 5}, {7, 10}, {4, 5}, {9, 10}, {1, 1}};
        BridgesAreLent x = Check.laid(TEN, "19", "", 0);
        for (int p = 0; p <= 10; p++) {
            Check.due("goes with " + p, x, x.drift(0, p, 1, 1), 0, tenths[p][0], tenths[p][1]);
            Check.due("stays with " + p, x, x.drift(0, p, 1, 0), 0, tenths[10 - p][0], tenths[10 - p][1]);
            Check.due("no farther in a night, with " + p, x, x.drift(0, p, 1, 2), 0, 0, 1);
        }
        Check.due("nothing drifts in truth", x.bridge(0, 2), 0);
    }

    private static void driftDown() {
        Doc.says(31, "(the next greater PLACE; of like PLACES each behind the other by numbers; WIDTH, others left aside), else it"
                + " stays;");
        BridgesAreLent x = Check.laid(DOWN, "19;99", "", 4, 1);
        int[] order = {4, 1, 2, 0, 3};
        for (int n = 0; n < order.length; n++) {
            for (int c = 0; c < order.length; c++) {
                Check.due("behind " + n + " nights at " + c, x, x.drift(0, 10, n, c), 0, c == order[n] ? 1 : 0, 1);
            }
        }
        Check.due("from 1 it goes to 2", x, x.drift(1, 10, 1, 2), 0, 1, 1);
        x.drift(0, 0, 12, 4);
        Check.due("never up the river", x, x.drift(1, 5, 12, 4), 0, 0, 1);
        BridgesAreLent y = Check.laid("2" + Check.times(";ab7:1", 10), "19", "", 3);
        Check.due("ten of like place", y, y.drift(0, 10, 6, 9), 0, 1, 1);
        Check.due("none ahead of it", y, y.drift(0, 5, 12, 2), 0, 0, 1);
    }

    private static void driftLast() {
        Doc.says(31, "from the last one it stays:");
        BridgesAreLent x = Check.laid(DOWN, "99", "", 3);
        for (int p = 0; p <= 10; p++) {
            Check.due("with " + p, x, x.drift(0, p, 12, 3), 0, 1, 1);
        }
        BridgesAreLent y = Check.laid("2;ab5:1", "19", "", 0);
        Check.due("the only one", y, y.drift(0, 5, 12, 0), 0, 1, 1);
        BridgesAreLent z = Check.laid("2;ab5:1;ab6:1", "19", "", 0);
        Check.due("it comes there and stays", z, z.drift(0, 5, 3, 1), 0, 7, 8);
    }

    private static void driftNights() {
        Doc.says(31, "how likely it is at a CROSSING behind n nights (0 .. 12): 0; the ROW: the fraction.");
        BridgesAreLent x = Check.laid(TEN, "19", "", 0);
        Check.due("no nights", x, x.drift(0, 10, 0, 0), 0, 1, 1);
        Check.due("no nights, elsewhere", x, x.drift(0, 10, 0, 1), 0, 0, 1);
        Check.due("12 nights, the first", x, x.drift(0, 9, 12, 0), 0, 1, 1000000000000L);
        Check.due("12 nights, the last of ten", x, x.drift(0, 5, 12, 9), 0, 299, 4096);
        Check.due("12 nights, hardly ever", x, x.drift(0, 1, 12, 9), 0, 33167, 200000000000L);
        Check.due("12 nights, six of them", x, x.drift(0, 5, 12, 6), 0, 231, 1024);
        Check.due("8 nights are not enough", x, x.drift(0, 10, 8, 9), 0, 0, 1);
        Check.due("9 nights are", x, x.drift(0, 10, 9, 9), 0, 1, 1);
    }

    private static void driftNotThere() {
        Doc.says(31, "-2: it is not at a CROSSING;");
        BridgesAreLent x = Check.object("2;ab9:1", "19", "");
        Check.refused("in the shed", x, () -> x.drift(0, 5, 1, 0), -2);
        x.tow(0, 0);
        Check.refused("towed there", x, () -> x.drift(0, 5, 1, 0), -2);
        x.hours(1);
        Check.refused("an hour yet", x, () -> x.drift(0, 5, 0, 0), -2);
        x.hours(1);
        Check.due("there", x, x.drift(0, 5, 1, 0), 0, 1, 1);
        x.tow(0, NONE);
        Check.refused("towed to the shed", x, () -> x.drift(0, 5, 1, 0), -2);
    }

    private static void driftNone() {
        Doc.says(31, "NONE: others.");
        Edges.Making made = () -> Check.laid(DOWN, "99;19", "", 3);
        BridgesAreLent x = made.object();
        Edges.outside("bridge", made, 0, 1, (o, b) -> o.drift(b, 5, 1, 0), NONE);
        Edges.taken("p", 0, 10, p -> x.drift(0, p, 1, 0));
        Edges.outside("p", made, 0, 10, (o, p) -> o.drift(0, p, 1, 0), NONE);
        Edges.taken("n", 0, 12, n -> x.drift(0, 5, n, 0));
        Edges.outside("n", made, 0, 12, (o, n) -> o.drift(0, 5, n, 0), NONE);
        Edges.taken("crossing", 0, 4, c -> x.drift(0, 5, 1, c));
        Edges.outside("crossing", made, 0, 4, (o, c) -> o.drift(0, 5, 1, c), NONE);
        Check.due("a new object", new BridgesAreLent().drift(0, 5, 1, 0), NONE);
    }

    private static void seekLikeliest() {
        Doc.says(32, "The CROSSING where it is the likeliest behind n nights; of equal ones the first down the river: it;");
        BridgesAreLent x = Check.laid(DOWN, "19", "", 4);
        Check.due("no nights", x.seek(0, 10, 0), 4);
        Check.due("surely the next", x.seek(0, 10, 1), 1);
        Check.due("surely the last", x.seek(0, 10, 12), 3);
        Check.due("likelier to stay", x.seek(0, 4, 1), 4);
        Check.due("equal: the first down the river, not by number", x.seek(0, 5, 1), 4);
        Check.due("likelier to go", x.seek(0, 6, 1), 1);
        Check.due("equal in the middle", x.seek(0, 5, 3), 1);
        Check.due("never", x.seek(0, 0, 12), 4);
        BridgesAreLent y = Check.laid(TEN, "19", "", 0);
        Check.due("of ten, the last", y.seek(0, 10, 9), 9);
        Check.due("of ten, the last but one", y.seek(0, 10, 8), 8);
        Check.due("of ten, the middle", y.seek(0, 5, 12), 6);
    }

    private static void seekRow() {
        Doc.says(32, "the ROW: the fraction.");
        BridgesAreLent x = Check.laid(DOWN, "19", "", 4);
        Check.due("sure", x, x.seek(0, 10, 12), 3, 1, 1);
        Check.due("half", x, x.seek(0, 5, 1), 4, 1, 2);
        Check.due("three of eight", x, x.seek(0, 5, 3), 1, 3, 8);
        Check.due("the stays of 12 nights", x, x.seek(0, 1, 12), 1, 94143178827L, 250000000000L);
    }

    private static void seekLikewise() {
        Doc.says(32, "-2, NONE: likewise.");
        Edges.Making made = () -> Check.laid(DOWN, "99;19;19", "", 3);
        BridgesAreLent x = made.object();
        x.tow(2, 2);
        Check.refused("in the shed", x, () -> x.seek(1, 5, 1), -2);
        Check.refused("towed", x, () -> x.seek(2, 5, 1), -2);
        Edges.outside("bridge", made, 0, 2, (o, b) -> o.seek(b, 5, 1), NONE);
        Edges.taken("p", 0, 10, p -> x.seek(0, p, 1));
        Edges.outside("p", made, 0, 10, (o, p) -> o.seek(0, p, 1), NONE);
        Edges.taken("n", 0, 12, n -> x.seek(0, 5, n));
        Edges.outside("n", made, 0, 12, (o, n) -> o.seek(0, 5, n), NONE);
        Check.due("a new object", new BridgesAreLent().seek(0, 5, 1), NONE);
    }

    private static int fits(String bridges, int what, int v, int is) {
        BridgesAreLent x = Check.object("2", bridges, "");
        x.found(what, v, is);
        return x.stolen();
    }

    private static void foundLength() {
        Doc.says(33, "It was found out of the stolen BRIDGE: what 0: its LENGTH is v or more;");
        for (int length = 1; length <= 9; length++) {
            for (int v = 0; v <= 18; v++) {
                Check.due("length " + length + ", v " + v, fits(length + "5", 0, v, 1), length >= v ? 1 : 0);
            }
        }
    }

    private static void foundSound() {
        Doc.says(33, "1: SOUND is v or more;");
        for (int sound = 0; sound <= 9; sound++) {
            for (int v = 0; v <= 18; v++) {
                Check.due("sound " + sound + ", v " + v, fits("5" + sound, 1, v, 1), sound >= v ? 1 : 0);
            }
        }
    }

    private static void foundRest() {
        Doc.says(33, "2: LENGTH and SOUND together leave v by 7;");
        for (int together = 1; together <= 18; together++) {
            int length = Math.min(9, together);
            for (int v = 0; v <= 6; v++) {
                Check.due(together + ", v " + v, fits("" + length + (together - length), 2, v, 1), together % 7 == v ? 1 : 0);
            }
        }
    }

    private static void foundNumber() {
        Doc.says(33, "3: its number is even (v 0) or odd (1);");
        String six = "11;22;33;44;55;66";
        Check.due("even", fits(six, 3, 0, 1), 0b010101);
        Check.due("odd", fits(six, 3, 1, 1), 0b101010);
    }

    private static void foundIs() {
        Doc.says(33, "is (1) so, or not (0): how many such.");
        String six = "11;22;33;44;55;66";
        Check.due("so", fits(six, 0, 4, 1), 0b111000);
        Check.due("not so", fits(six, 0, 4, 0), 0b000111);
        Check.due("sound, not so", fits(six, 1, 3, 0), 0b000011);
        Check.due("rest, not so", fits(six, 2, 2, 0), 0b111110);
        Check.due("odd, not so", fits(six, 3, 1, 0), 0b010101);
        BridgesAreLent x = Check.object("2", six, "");
        for (int n = 1; n <= 12; n++) {
            Check.due("how many", x.found(0, 0, 1), n);
            Check.due("count", x.count(9), n);
        }
    }

    private static void foundRefused() {
        Doc.says(33, "Refused: others (v 0 .. 18; of 2 0 .. 6; of 3 0, 1), 12.");
        int[] greatest = {18, 18, 6, 1};
        for (int what = 0; what <= 3; what++) {
            Edges.Making made = () -> Check.object("2", "11;22", "");
            BridgesAreLent x = made.object();
            int of = what;
            x.found(what, 0, 1);
            Check.due("what " + what + ", the greatest v", x.found(what, greatest[what], 0), 2);
            Edges.outside("what " + what + ", v", made, 0, greatest[what], (o, v) -> o.found(of, v, 1), NONE);
            Edges.outside("what " + what + ", is", made, 0, 1, (o, is) -> o.found(of, 0, is), NONE);
        }
        Edges.Making madeToo = () -> Check.object("2", "11;22", "");
        BridgesAreLent y = madeToo.object();
        Edges.outside("what", madeToo, 0, 3, (o, what) -> o.found(what, 0, 1), NONE);
        for (int n = 1; n <= 12; n++) {
            y.found(0, 0, 1);
        }
        Check.refused("a thirteenth", y, () -> y.found(0, 18, 1), NONE);
        Check.due("it does not count", y.stolen(), 3);
        y.forget();
        Check.due("taken again", y.found(0, 2, 1), 1);
        Check.due("without bridges, too", new BridgesAreLent().found(0, 0, 0), 1);
    }

    private static void forget() {
        Doc.says(34, "They are forgotten: how many there were.");
        BridgesAreLent x = Check.object("2", "11;22", "");
        Check.due("none", x.forget(), 0);
        for (int n = 1; n <= 12; n++) {
            for (int i = 0; i < n; i++) {
                x.found(0, 9, 1);
            }
            Check.due("none fits", x.stolen(), 0);
            Check.due("how many", x.forget(), n);
            Check.due("forgotten", x.count(9), 0);
            Check.due("all fit", x.stolen(), 3);
        }
        Check.due("none again", x.forget(), 0);
    }

    private static void stolenFit() {
        Doc.says(35, "BRIDGES (bits) that fit all that was found;");
        BridgesAreLent x = Check.object("2", "11;22;33;44;55;66", "");
        Check.due("nothing was found: all", x.stolen(), 63);
        x.found(0, 2, 1);
        Check.due("one thing", x.stolen(), 62);
        x.found(0, 6, 0);
        Check.due("two things", x.stolen(), 30);
        x.found(3, 1, 1);
        Check.due("three things", x.stolen(), 10);
        x.found(1, 3, 1);
        Check.due("four things", x.stolen(), 8);
        x.found(3, 0, 1);
        Check.due("none fits all", x.stolen(), 0);
        BridgesAreLent y = Check.object("2", "15", "");
        y.found(1, 5, 1);
        y.sheet(2, 1, 4, 0);
        Check.due("sound as it is now", y.stolen(), 0);
        Check.bridges(y, "19");
        Check.due("one that came since", y.stolen(), 2);
    }

    private static void stolenRow() {
        Doc.says(35, "the ROW: how many.");
        BridgesAreLent x = Check.object("2", "11;22;33;44;55;66", "");
        Check.due("six", x, x.stolen(), 63, 6);
        x.found(0, 6, 1);
        Check.due("one", x, x.stolen(), 32, 1);
        x.found(0, 6, 0);
        Check.due("none", x, x.stolen(), 0, 0);
        BridgesAreLent y = new BridgesAreLent();
        Check.due("no bridges", y, y.stolen(), 0, 0);
    }

    private static void askWhat() {
        Doc.says(36, "What to find out next (19 times what and v; as in found()),");
        Check.due("length", Check.object("2", "15;95", "").ask(), 2);
        Check.due("the longest length", Check.object("2", "85;95", "").ask(), 9);
        Check.due("sound", Check.object("2", "50;59", "").ask(), 19 + 1);
        Check.due("the greatest sound", Check.object("2", "58;59", "").ask(), 19 + 9);
        Check.due("number", Check.object("2", "55;55", "").ask(), 57);
        Check.due("nothing parts one", Check.object("2", "55", "").ask(), 0);
    }

    private static void askFewest() {
        Doc.says(36, "so that, whichever it is, the fewest that fit are left at most: the least such: it;");
        BridgesAreLent x = Check.object("2", "11;21;31;41;51;61", "");
        Check.due("three and three", x, x.ask(), 4, 3);
        x.found(0, 4, 0);
        Check.due("of three", x, x.ask(), 2, 2);
        x.found(0, 2, 1);
        Check.due("of two", x, x.ask(), 3, 1);
        x.found(0, 3, 1);
        Check.due("of one: the least", x, x.ask(), 0, 1);
        // LENGTH, the rest and the number part them all as one and two
        BridgesAreLent y = Check.object("2", "10;10;20", "");
        Check.due("the least of what", y, y.ask(), 2, 2);
        // by LENGTH and by SOUND 1 and 3, by the rest (1, 1, 2, 2) two and two, ahead of the number
        BridgesAreLent z = Check.object("2", "10;10;11;20", "");
        Check.due("by a rest", z, z.ask(), 19 * 2 + 1, 2);
    }

    private static void askRow() {
        Doc.says(36, "the ROW: how many at most.");
        BridgesAreLent x = Check.object("2", "55;55;55;55;55", "");
        Check.due("by number: 0 2 4, or 1 3", x, x.ask(), 57, 3);
        x.found(3, 0, 1);
        Check.due("nothing parts them", x, x.ask(), 0, 3);
        x.found(3, 1, 0);
        Check.due("nothing parts them still", x, x.ask(), 0, 3);
    }

    private static void askNoneFits() {
        Doc.says(36, "-2: none fits.");
        BridgesAreLent x = Check.object("2", "11;22", "");
        x.stolen();
        x.found(0, 3, 1);
        Check.refused("none fits", x, x::ask, -2);
        Check.due("no bridges", new BridgesAreLent().ask(), -2);
        x.forget();
        Check.due("forgotten", x, x.ask(), 2, 1);
    }
}
