/** Promises 19 to 23: each bound that they name. */
final class EdgesOfWays {
    private static final int NONE = BridgesAreLent.NONE;
    /** Seven BANKS in a line, the longest way there can be with six BRIDGES; h is joined with none. */
    private static final String LINE = "8;ab1:1;bc1:1;cd1:1;de1:1;ef1:1;fg1:1";
    private static final String RING = "4;ab1:1;bc1:1;cd1:1;da1:1";

    private EdgesOfWays() {
    }

    static void all() {
        routeFewest();
        routeOpen();
        routeRow();
        routeCant();
        routeNone();
        joinedWith();
        joinedRow();
        joinedNone();
        soonestHours();
        soonestByHours();
        soonestThere();
        soonestNotIn99();
        soonestNone();
        movesFewest();
        movesTowed();
        movesUnlike();
        movesOpen();
        movesRow();
        movesNotBy2();
        movesNone();
        neededLeft();
        neededFirst();
        neededRow();
        neededNone();
    }

    private static BridgesAreLent line(int sound, String people) {
        return Check.laid(LINE, Check.times("1" + sound + ";", 5) + "1" + sound, people, 0, 1, 2, 3, 4, 5);
    }

    private static void routeFewest() {
        Doc.says(19, "The fewest CROSSINGS by which one of PEOPLE goes to a BANK, as all is");
        BridgesAreLent x = line(9, "a1;g9");
        for (int bank = 0; bank < 7; bank++) {
            Check.due("from a to " + bank, x.route(0, bank), bank);
            Check.due("from g to " + bank, x.route(1, bank), 6 - bank);
        }
        BridgesAreLent y = Check.laid(RING, "19;19;19;19", "a1", 0, 1, 2, 3);
        Check.due("the shorter way round", y, y.route(0, 3), 1, 3);
        y.tow(3, NONE);
        Check.due("the other way, as all is", y, y.route(0, 3), 3, 0, 1, 2);
        y.tow(2, 3);
        Check.due("one that is towed there is not", y.route(0, 3), -2);
    }

    private static void routeOpen() {
        Doc.says(19, "(those that are OPEN for it; SOUND does not wear): how many;");
        BridgesAreLent x = Check.laid("2;ab1:1", "15", "a4;a5;a6", 0);
        Check.due("lighter than it is sound", x, x.route(0, 1), 1, 0);
        Check.due("just as heavy", x, x.route(1, 1), 1, 0);
        Check.due("once more: it does not wear", x, x.route(1, 1), 1, 0);
        Check.due("sound", x.bridge(0, 1), 5);
        Check.due("too heavy", x.route(2, 1), -2);
        BridgesAreLent y = line(5, "a5");
        Check.due("all just as sound", y, y.route(0, 6), 6, 0, 1, 2, 3, 4, 5);
    }

    private static void routeRow() {
        Doc.says(19, "the ROW: they in turn: of as few the least row.");
        BridgesAreLent x = line(9, "g1");
        Check.due("in turn", x, x.route(0, 0), 6, 5, 4, 3, 2, 1, 0);
        Check.due("it is there: none", x, x.route(0, 6), 0);
        BridgesAreLent y = Check.laid("2" + Check.times(";ab1:1", 10), "19;19;11", "a9", 9, 5, 0);
        Check.due("of like ones the least that is open", y, y.route(0, 1), 1, 5);
        BridgesAreLent z = Check.laid("4;ab1:1;ac1:1;cd1:1;bd1:1", "19;19;19;19", "a1", 0, 1, 2, 3);
        Check.due("0 3, not 1 2", z, z.route(0, 3), 2, 0, 3);
        BridgesAreLent w = Check.laid("4;ab1:1;ac1:1;cd1:1;bc1:1", "19;19;19;19", "a1", 0, 1, 2, 3);
        Check.due("not by a bank that is no nearer", w, w.route(0, 3), 2, 1, 2);
    }

    private static void routeCant() {
        Doc.says(19, "-2: it can't;");
        BridgesAreLent x = line(9, "a1;h1");
        Check.refused("to a bank without a bridge", x, () -> x.route(0, 7), -2);
        Check.refused("from a bank without a bridge", x, () -> x.route(1, 0), -2);
        BridgesAreLent y = Check.object(RING, "19", "a1");
        Check.refused("no bridge at all", y, () -> y.route(0, 1), -2);
        Check.due("but to where it is", y, y.route(0, 0), 0);
    }

    private static void routeNone() {
        Doc.says(19, "NONE: none such.");
        Edges.Making made = () -> line(9, "a1;h1");
        Edges.outside("person", made, 0, 1, (o, p) -> o.route(p, 0), NONE);
        Edges.outside("bank", made, 0, 7, (o, bank) -> o.route(0, bank), NONE);
        Check.due("no river", new BridgesAreLent().route(0, 0), NONE);
    }

    private static void joinedWith() {
        Doc.says(20, "BANKS (bits) that are JOINED with one (it too);");
        BridgesAreLent x = line(0, "");
        for (int bank = 0; bank < 7; bank++) {
            Check.due("of the line", x.joined(bank), 127);
        }
        Check.due("alone", x.joined(7), 128);
        x.tow(2, NONE);
        Check.due("the line is cut: c", x.joined(2), 7);
        Check.due("the line is cut: d", x.joined(3), 120);
        Check.due("no bridges", Check.object("2", "", "").joined(1), 2);
    }

    private static void joinedRow() {
        Doc.says(20, "the ROW: how many PAIRS there are in all.");
        BridgesAreLent x = line(0, "");
        Check.due("of one in the line", x, x.joined(0), 127, 21);
        Check.due("of one alone, of all still", x, x.joined(7), 128, 21);
        x.tow(2, NONE);
        Check.due("of two parts", x, x.joined(0), 7, 9);
        BridgesAreLent y = Check.object("8", "", "");
        Check.due("none", y, y.joined(0), 1, 0);
    }

    private static void joinedNone() {
        Doc.says(20, "NONE: none such.");
        Edges.Making made = () -> Check.laid(RING, "19", "", 0);
        BridgesAreLent x = made.object();
        Edges.taken("joined", 0, 3, x::joined);
        Edges.outside("joined", made, 0, 3, BridgesAreLent::joined, NONE);
        Edges.Making madeToo = () -> new BridgesAreLent();
        Edges.outside("joined, no banks", madeToo, 0, -1, BridgesAreLent::joined, NONE);
    }

    private static BridgesAreLent towed(String river, int... hours) {
        BridgesAreLent x = Check.object(river, Check.times("15;", 5) + "15", "a5;a6");
        for (int c = 0; c < hours.length; c++) {
            if (hours[c] > 0) {
                Check.rule(x, "" + hours[c]);
                x.tow(c, c);
            }
        }
        return x;
    }

    private static void soonestHours() {
        Doc.says(21, "In how many HOURS (0 .. 99) one of PEOPLE is at a BANK at the soonest, going by one CROSSING in each HOUR, or"
                + " waiting, as tows that are under way come");
        BridgesAreLent x = line(9, "a1");
        for (int bank = 0; bank < 7; bank++) {
            Check.due("a crossing in each hour", x.soonest(0, bank), bank);
        }
        for (int hours : new int[] {1, 2, 50, 97, 98}) {
            BridgesAreLent y = towed("3;ab1:1;bc1:1", hours, 1);
            Check.due("waiting for " + hours, y.soonest(0, 1), hours + 1);
            Check.due("and on", y.soonest(0, 2), hours + 2 <= 99 ? hours + 2 : -2);
        }
        Check.due("waiting on the way", towed("3;ab1:1;bc1:1", 1, 98).soonest(0, 2), 99);
        BridgesAreLent z = towed("3;ab1:1;bc1:1;ac1:1", 1, 2, 9);
        Check.due("sooner than by the one crossing", z.soonest(0, 2), 3);
        z.hours(1);
        Check.due("an hour later", z.soonest(0, 2), 2);
    }

    private static void soonestByHours() {
        Doc.says(21, "(in the first HOUR by those that are OPEN now, in the next by those that are OPEN an HOUR from now, and so on;"
                + " SOUND does not wear):");
        BridgesAreLent x = towed("4;ab1:1;bc1:1;cd1:1", 1, 2, 3);
        Check.due("each comes just in time", x.soonest(0, 3), 4);
        Check.due("an hour too late", towed("4;ab1:1;bc1:1;cd1:1", 1, 3, 3).soonest(0, 3), 5);
        x.hours(1);
        Check.due("open now", x.soonest(0, 1), 1);
        Check.due("open an hour from now", x.soonest(0, 2), 2);
        Check.due("sound does not wear", x.bridge(0, 1), 5);
        Check.due("too heavy", x.soonest(1, 1), -2);
        x.tow(0, NONE);
        Check.due("towed away now, so never open", x.soonest(0, 1), -2);
        Check.due("nothing was told in the row", x.count(11), 2);
    }

    private static void soonestThere() {
        Doc.says(21, "how many (0: it is there).");
        BridgesAreLent x = Check.object("2;ab1:1", "19", "a1;b9");
        Check.refused("a", x, () -> x.soonest(0, 0), 0);
        Check.refused("b", x, () -> x.soonest(1, 1), 0);
    }

    private static void soonestNotIn99() {
        Doc.says(21, "-2: not in 99;");
        BridgesAreLent x = towed("2;ab1:1", 99);
        Check.refused("in 100", x, () -> x.soonest(0, 1), -2);
        x.hours(1);
        Check.refused("in 99", x, () -> x.soonest(0, 1), 99);
        Check.due("in 100 by two", towed("3;ab1:1;bc1:1", 98, 98).soonest(0, 2), -2);
        Check.due("in 99 by two", towed("3;ab1:1;bc1:1", 97, 98).soonest(0, 2), 99);
        Check.refused("never", x, () -> x.soonest(1, 1), -2);
        Check.due("no bridge is towed there", towed("2;ab1:1").soonest(0, 1), -2);
    }

    private static void soonestNone() {
        Doc.says(21, "NONE: none such.");
        Edges.Making made = () -> line(9, "a1;h1");
        Edges.outside("person", made, 0, 1, (o, p) -> o.soonest(p, 0), NONE);
        Edges.outside("bank", made, 0, 7, (o, bank) -> o.soonest(0, bank), NONE);
        Check.due("no river", new BridgesAreLent().soonest(0, 0), NONE);
    }

    private static void movesFewest() {
        Doc.says(22, "The fewest BRIDGES (0 .. 2),");
        BridgesAreLent x = Check.object("4;ab1:1;bc1:1;cd1:1;ac1:1", "15;15;15", "a5");
        Check.due("none: it is there", x, x.moves(0, 0), 0);
        Check.due("one", x, x.moves(0, 1), 1, 0, 0);
        Check.due("one, though two would do", x, x.moves(0, 2), 1, 0, 3);
        Check.due("two", x, x.moves(0, 3), 2, 0, 2, 1, 3);
        BridgesAreLent y = Check.laid("3;ab1:1;bc1:1", "15;15", "a5", 0, 1);
        Check.due("none: all is there", y, y.moves(0, 2), 0);
    }

    private static void movesTowed() {
        Doc.says(22, "none of them towed,");
        BridgesAreLent x = Check.object("2;ab9:1;ab1:1", "15", "a5");
        Check.due("in the shed", x, x.moves(0, 1), 1, 0, 0);
        x.tow(0, 0);
        Check.refused("towed to a crossing", x, () -> x.moves(0, 1), -2);
        x.hours(1);
        Check.refused("an hour yet", x, () -> x.moves(0, 1), -2);
        x.hours(1);
        Check.due("there", x, x.moves(0, 1), 0);
        x.tow(0, NONE);
        Check.refused("towed to the shed", x, () -> x.moves(0, 1), -2);
    }

    private static void movesUnlike() {
        Doc.says(22, "to be put to unlike CROSSINGS (at which none is now, to which none is towed; long enough), as if at once,");
        BridgesAreLent x = Check.laid("3;ab1:1;bc1:1", "11;19", "a5", 0);
        Check.due("one that holds can't be put where one is", x.moves(0, 1), -2);
        Check.due("nor where one is that is put elsewhere", x.moves(0, 2), -2);
        BridgesAreLent y = Check.object("2;ab9:1", "15;15", "a5");
        y.tow(0, 0);
        Check.due("nor to where one is towed", y.moves(0, 1), -2);
        for (int length = 1; length <= 9; length++) {
            BridgesAreLent z = Check.object("2;ab1:5", length + "5", "a5");
            Check.due("width 5, length " + length, z.moves(0, 1), length < 5 ? -2 : 1);
        }
        BridgesAreLent w = Check.laid("3;ab1:1;bc1:1", "15", "a5", 0);
        Check.due("where it is taken away none is", w.moves(0, 2), -2);
        // both leave their places, and what was by these is no more
        BridgesAreLent v = Check.laid("5;ab1:1;cd1:1;ae1:1;eb1:1", "15;15", "a5;c5", 0, 1);
        Check.due("one stays, one is put", v, v.moves(0, 4), 1, 0, 2);
        Check.due("both are put", v, v.moves(1, 4), -2, 0, 2);
        v.sheet(2, 1, 5, 0);
        Check.due("one that does not hold", v, v.moves(0, 4), 1, 0, 2);
    }

    private static void movesOpen() {
        Doc.says(22, "so that one of PEOPLE can go to a BANK by those that are OPEN for it: how many;");
        for (int sound = 0; sound <= 9; sound++) {
            BridgesAreLent x = Check.object("2;ab1:1", "1" + sound, "a5");
            Check.due("weight 5, sound " + sound, x.moves(0, 1), sound < 5 ? -2 : 1);
        }
        BridgesAreLent y = Check.laid("3;ab1:1;bc1:1;ab2:1", "14;15;15", "a5", 0);
        Check.due("one there does not hold, so two", y, y.moves(0, 2), 2, 1, 1, 2, 2);
        Check.due("nothing is put anywhere", y.crossing(1, 4), NONE);
    }

    private static void movesRow() {
        Doc.says(22, "the ROW: BRIDGE and CROSSING of each, BRIDGES rising: of as few the least row.");
        BridgesAreLent x = Check.object("2;ab1:1;ab2:1", "15;15", "a5");
        Check.due("the first to the first", x, x.moves(0, 1), 1, 0, 0);
        BridgesAreLent y = Check.object("2;ab1:5;ab2:1", "15;55", "a5");
        Check.due("the first to the second, not the second to the first", y, y.moves(0, 1), 1, 0, 1);
        BridgesAreLent z = Check.object("3;bc1:5;ab2:1", "15;55", "a5");
        Check.due("bridges rising, not crossings", z, z.moves(0, 2), 2, 0, 1, 1, 0);
        BridgesAreLent w = Check.object("3;bc1:1;ab2:1", "11;15;15", "a5");
        Check.due("the first that hold", w, w.moves(0, 2), 2, 1, 0, 2, 1);
        BridgesAreLent v = Check.object("3;bc1:1;ab2:1;bc3:1", "15;15;15;15;15;15", "a5");
        Check.due("of six", v, v.moves(0, 2), 2, 0, 0, 1, 1);
    }

    private static void movesNotBy2() {
        Doc.says(22, "-2: not by 2;");
        BridgesAreLent x = Check.object("4;ab1:1;bc1:1;cd1:1", "15;15;15", "a5");
        Check.refused("by three", x, () -> x.moves(0, 3), -2);
        Check.due("by two", x, x.moves(0, 2), 2, 0, 0, 1, 1);
        BridgesAreLent w = Check.object("3" + Check.times(";ab1:1", 10), Check.times("15;", 5) + "15", "a5;a6");
        Check.refused("ten crossings and six bridges, none there", w, () -> w.moves(0, 2), -2);
        Check.refused("ten crossings and six bridges, too heavy", w, () -> w.moves(1, 1), -2);
        BridgesAreLent y = Check.object("3;ab1:1", "", "a5");
        Check.refused("no bridges", y, () -> y.moves(0, 1), -2);
        BridgesAreLent z = Check.object("3;ab1:1", "19;19", "a5");
        Check.refused("no crossing there", z, () -> z.moves(0, 2), -2);
    }

    private static void movesNone() {
        Doc.says(22, "NONE: none such.");
        Edges.Making made = () -> line(9, "a1;h1");
        Edges.outside("person", made, 0, 1, (o, p) -> o.moves(p, 0), NONE);
        Edges.outside("bank", made, 0, 7, (o, bank) -> o.moves(0, bank), NONE);
        Check.due("no river", new BridgesAreLent().moves(0, 0), NONE);
    }

    private static void neededLeft() {
        Doc.says(23, "The BRIDGE at a CROSSING without which the fewest PAIRS are left;");
        BridgesAreLent x = line(0, "");
        Check.due("in the middle of seven banks", x, x.needed(), 2, 9, 21);
        x.tow(2, NONE);
        Check.due("one in the shed soon is not", x, x.needed(), 4, 5, 9);
        BridgesAreLent y = Check.laid(RING, "10;10;10;10", "", 0, 1, 2);
        Check.due("sound 0 counts too", y, y.needed(), 1, 2, 6);
        Check.rule(y, "1");
        y.tow(3, 3);
        Check.due("one that is towed there, an hour yet, does not", y, y.needed(), 1, 2, 6);
    }

    private static void neededFirst() {
        Doc.says(23, "of equal ones the first: it;");
        BridgesAreLent x = Check.laid(RING, "19;19;19;19", "", 3, 2, 1, 0);
        Check.due("none is needed in a ring: bridge 0, not crossing 0", x, x.needed(), 0, 6, 6);
        BridgesAreLent y = Check.laid("4;ab1:1;cd1:1", "19;19;19", "", NONE, 1, 0);
        Check.due("one of two alike", y, y.needed(), 1, 1, 2);
    }

    private static void neededRow() {
        Doc.says(23, "the ROW: how many are left, how many there are.");
        BridgesAreLent x = Check.laid("2;ab1:1;ab2:1", "19;19", "", 0, 1);
        Check.due("as many are left", x, x.needed(), 0, 1, 1);
        x.tow(0, NONE);
        Check.due("none is left", x, x.needed(), 1, 0, 1);
    }

    private static void neededNone() {
        Doc.says(23, "-2: none is at a CROSSING.");
        BridgesAreLent x = Check.object("2;ab9:1", "19", "");
        Check.refused("in the shed", x, x::needed, -2);
        x.tow(0, 0);
        Check.refused("towed there", x, x::needed, -2);
        x.hours(1);
        Check.refused("an hour yet", x, x::needed, -2);
        x.hours(1);
        Check.due("there", x, x.needed(), 0, 0, 1);
        x.tow(0, NONE);
        Check.refused("towed away", x, x::needed, -2);
        Check.due("a new object", new BridgesAreLent().needed(), -2);
    }
}
