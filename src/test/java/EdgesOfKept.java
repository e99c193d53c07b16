/** Promises 42 to 45: each bound that they name. */
final class EdgesOfKept {
    private static final int NONE = BridgesAreLent.NONE;

    private EdgesOfKept() {
    }

    static void all() {
        keeps();
        keepRefused();
        againAsKept();
        againRefused();
        countBanks();
        countPeople();
        countSets();
        countBroken();
        countRest();
        countAnother();
        rowNumber();
        rowMissing();
    }

    private static BridgesAreLent usual() {
        return Check.laid("2;ab1:1;ab9:1;ab18:1", "15;15;15", "a5;a1", 0);
    }

    private static void keeps() {
        Doc.says(42, "Where BRIDGES and PEOPLE are, SOUND, LOANS, BROKEN ones, NOW are kept under a number 0 .. 2: true.");
        BridgesAreLent x = usual();
        x.lend(0, 3);
        x.tow(1, 1);
        String[] seen = new String[3];
        for (int i = 0; i <= 2; i++) {
            seen[i] = Check.things(x);
            Check.due("keep " + i, x.keep(i), true);
            x.cross(i % 2, 0);
            x.hours(3);
            x.lend(2, x.count(4) + 2);
        }
        for (int i : new int[] {2, 0, 1}) {
            x.tow(0, NONE);
            x.sheet(2, 3, 7, 1);
            Check.due("again " + i, x.again(i), true);
            Check.due("as kept under " + i, Check.things(x), seen[i]);
        }
        x.hours(9);
        x.keep(1);
        String anew = Check.things(x);
        x.hours(1);
        x.again(1);
        Check.due("kept anew", Check.things(x), anew);
        x.again(2);
        Check.due("the others stay kept", Check.things(x), seen[2]);
        Check.due("a new object", new BridgesAreLent().keep(2), true);
    }

    private static void keepRefused() {
        Doc.says(42, "Refused: others.");
        Edges.Making made = EdgesOfKept::usual;
        BridgesAreLent x = made.object();
        Edges.outside("keep", made, 0, 2, (o, i) -> o.keep(i) ? 1 : 0, 0);
        x.keep(-1);
        x.keep(3);
        for (int i = 0; i <= 2; i++) {
            Check.due("nothing is kept under " + i, x.again(i), false);
        }
    }

    private static void againAsKept() {
        Doc.says(43, "They are as they were kept under a number.");
        BridgesAreLent x = usual();
        x.lend(0, 3);
        x.keep(0);
        String before = Check.things(x);
        x.cross(0, 0);
        x.tow(1, 1);
        x.hours(5);
        Check.due("broken", x.count(8), 1);
        Check.due("again", x.again(0), true);
        Check.due("as kept", Check.things(x), before);
        Check.due("none broken", x.count(8), 0);
        Check.due("sound", x.bridge(0, 1), 5);
        Check.due("again, where nothing changed", x.again(0), true);
        x.hours(2);
        Check.due("it stays kept", x.again(0), true);
        Check.due("as kept", Check.things(x), before);
    }

    private static void againRefused() {
        Doc.says(43, "Refused: nothing kept, BRIDGES or PEOPLE came since.");
        Edges.outside("nothing kept", EdgesOfKept::usual, 0, -1, (o, i) -> o.again(i) ? 1 : 0, 0);
        Edges.Making made = () -> {
            BridgesAreLent o = usual();
            o.keep(1);
            o.hours(1);
            return o;
        };
        Edges.outside("kept under 1", made, 1, 1, (o, i) -> o.again(i) ? 1 : 0, 0);
        BridgesAreLent x = made.object();
        Check.bridges(x, "");
        Check.people(x, "");
        Check.bridges(x, "0");
        Check.people(x, "x");
        Check.due("none came", x.again(1), true);
        Check.bridges(x, "11");
        x.hours(1);
        Check.refused("a bridge came", x, () -> x.again(1) ? 1 : 0, 0);
        x.keep(2);
        Check.due("kept since", x.again(2), true);
        Check.people(x, "a1");
        x.hours(1);
        Check.refused("one of people came", x, () -> x.again(2) ? 1 : 0, 0);
        Check.refused("both came", x, () -> x.again(1) ? 1 : 0, 0);
        Check.due("what can be undone stays", x.count(10), 1);
    }

    private static void countBanks() {
        Doc.says(44, "What 0: BANKS, 1: CROSSINGS,");
        BridgesAreLent x = new BridgesAreLent();
        Check.due("no banks", x.count(0) + x.count(1), 0);
        Check.river(x, "8" + Check.times(";ah1:1", 10));
        Check.due("banks", x.count(0), 8);
        Check.due("crossings", x.count(1), 10);
        Check.river(x, "2");
        Check.due("the fewest banks", x.count(0), 2);
        Check.due("no crossings", x.count(1), 0);
    }

    private static void countPeople() {
        Doc.says(44, "2: BRIDGES, 3: PEOPLE, 4: NOW,");
        BridgesAreLent x = Check.object("2", "11;22;33;44;55;66", "a1;a1;a1;a1;a1");
        Check.due("bridges", x.count(2), 6);
        Check.due("people", x.count(3), 5);
        Check.due("now at first", x.count(4), 0);
        x.hours(99);
        x.hours(99);
        Check.due("now", x.count(4), 198);
    }

    private static void countSets() {
        Doc.says(44, "5: BRIDGES in THE SHED (bits), 6: that are towed (bits), 7: that are lent (bits),");
        BridgesAreLent x = Check.laid("2;ab1:1;ab2:1;ab3:1", "19;19;19;19;19;19", "", 0, 1);
        Check.due("in the shed", x.count(5), 0b111100);
        Check.due("none is towed", x.count(6), 0);
        x.tow(1, NONE);
        x.tow(5, 2);
        Check.due("in the shed, not one that is towed there", x.count(5), 0b011100);
        Check.due("towed to the shed and to a crossing", x.count(6), 0b100010);
        x.lend(0, 9);
        x.lend(1, 9);
        x.lend(4, 10);
        x.lend(5, 9);
        Check.due("lent, wherever they are", x.count(7), 0b110011);
        x.lend(0, NONE);
        Check.due("one no more", x.count(7), 0b110010);
        x.hours(8);
        Check.due("one yet", x.count(7), 0b010000);
        x.hours(1);
        Check.due("none is lent", x.count(7), 0);
        Check.due("none is towed", x.count(6), 0);
        Check.due("in the shed", x.count(5), 0b011110);
    }

    private static void countBroken() {
        Doc.says(44, "8: BROKEN promises in all, 9: what was found, 10: what can be undone,");
        BridgesAreLent x = Check.laid("2;ab1:1;ab2:1", "19;19", "a1", 0, 1);
        for (int i = 1; i <= 20; i++) {
            x.lend(0, x.count(4) + 1);
            x.lend(1, x.count(4) + 1);
            x.hours(1);
            Check.due("broken in all", x.count(8), 2 * i);
            Check.due("what can be undone", x.count(10), Math.min(15, 3 * i));
        }
        for (int i = 1; i <= 12; i++) {
            x.found(0, 0, 1);
            Check.due("what was found", x.count(9), i);
        }
        Check.river(x, "2;ab1:1");
        Check.due("in all: a river anew leaves it", x.count(8), 40);
    }

    private static void countRest() {
        Doc.says(44, "11: numbers of the ROW, 12: signs of THE TEXT, 13: PAIRS.");
        BridgesAreLent x = Check.laid("8;ab1:1;bc1:1;cd1:1;de1:1;ef1:1;fg1:1", "19;19;19;19;19;19", "a1", 0, 1, 2, 3, 4, 5);
        x.route(0, 6);
        Check.due("six numbers", x.count(11), 6);
        x.route(0, 0);
        Check.due("no number", x.count(11), 0);
        Check.due("no signs", x.count(12), 0);
        Check.write(x, Check.times("x", 79));
        Check.due("79 signs", x.count(12), 79);
        Check.due("pairs", x.count(13), 21);
        x.tow(0, NONE);
        Check.due("fewer pairs", x.count(13), 15);
    }

    private static void countAnother() {
        Doc.says(44, "-100 for another what.");
        Edges.Making made = EdgesOfKept::usual;
        BridgesAreLent x = made.object();
        Edges.outside("count", made, 0, 13, BridgesAreLent::count, -100);
        for (int what = 0; what <= 13; what++) {
            Check.due("count " + what, x.count(what) != -100, true);
        }
    }

    private static void rowNumber() {
        Doc.says(45, "Number i of the ROW.");
        BridgesAreLent x = Check.laid("8;ab1:1;bc1:1;cd1:1;de1:1;ef1:1;fg1:1", "19;19;19;19;19;19", "g1", 0, 1, 2, 3, 4, 5);
        x.route(0, 0);
        for (int i = 0; i < 6; i++) {
            Check.due("number " + i, x.row(i), 5 - i);
        }
        x.drift(0, 9, 12, 0);
        Check.due("a number beyond ints", x.row(1), 1000000000000L);
    }

    private static void rowMissing() {
        Doc.says(45, "NoSuchElementException: none such.");
        BridgesAreLent x = usual();
        BridgesAreLent y = new BridgesAreLent();
        Edges.missing("no row yet", 0, -1, y::row);
        x.worst(0);
        Edges.missing("one number", 0, 0, x::row);
        x.share(1, 1, 1, 1);
        Edges.missing("two numbers", 0, 1, x::row);
        x.lays(0);
        Edges.missing("none", 0, -1, x::row);
    }
}
