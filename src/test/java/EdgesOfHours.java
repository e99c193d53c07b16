/** Promises 12 to 16: each bound that they name. */
final class EdgesOfHours {
    private static final int NONE = BridgesAreLent.NONE;

    private EdgesOfHours() {
    }

    static void all() {
        takesHours();
        takesThere();
        takesTooShort();
        takesTaken();
        takesNone();
        towBegins();
        towAsTakes();
        lendTill();
        lendNoMore();
        lendAnotherHour();
        lendNoBridge();
        crossGoes();
        crossNeither();
        crossNotOpen();
        crossNone();
        crossWears();
        hoursGoBy();
        hoursRow();
        hoursRefused();
    }

    private static BridgesAreLent usual() {
        return Check.object(Check.RIVER, Check.BRIDGES, Check.PEOPLE);
    }

    private static void takesHours() {
        Doc.says(12, "HOURS that a tow of a BRIDGE, from where it is (it is not towed), to a CROSSING (NONE: THE SHED) would take.");
        BridgesAreLent x = Check.laid("2;ab99:1;ab1:9", "99;19", "", 0);
        Check.due("to the shed, up", x.takes(0, NONE), 14);
        Check.due("up", x.takes(0, 1), 13);
        Check.refused("nothing changes", x, () -> x.takes(0, 1), 13);
        x.tow(0, 1);
        x.hours(13);
        Check.due("from where it is now", x.takes(0, 0), 11);
        Check.due("from the shed", x.takes(1, 0), 12);
    }

    private static void takesThere() {
        Doc.says(12, "-2: it is towed, or is there;");
        BridgesAreLent y = usual();
        Check.refused("in the shed, to the shed", y, () -> y.takes(0, NONE), -2);
        y.tow(0, 1);
        for (int c = NONE; c < 4; c++) {
            int to = c;
            Check.refused("towed, to " + c, y, () -> y.takes(0, to), -2);
        }
        BridgesAreLent x = usual();
        x.tow(0, 1);
        x.tow(2, 2);
        Check.refused("towed, to where another is towed", x, () -> x.takes(0, 2), -2);
        Check.refused("towed, to one that is too wide", x, () -> x.takes(2, 3), -2);
        x.hours(3);
        Check.refused("towed, an hour yet", x, () -> x.takes(0, 0), -2);
        x.hours(1);
        Check.refused("is there", x, () -> x.takes(0, 1), -2);
        Check.due("towed no more", x.takes(0, NONE), 6);
        x.tow(0, NONE);
        Check.refused("towed to the shed", x, () -> x.takes(0, NONE), -2);
        Check.refused("towed to the shed, back", x, () -> x.takes(0, 1), -2);
    }

    private static void takesTooShort() {
        Doc.says(12, "-3: LENGTH is below WIDTH;");
        for (int width = 1; width <= 9; width++) {
            for (int length = 1; length <= 9; length++) {
                BridgesAreLent x = Check.object("2;ab0:" + width, length + "0", "");
                Check.due("length " + length + ", width " + width, x.takes(0, 0), length < width ? -3 : 1);
            }
        }
        BridgesAreLent y = Check.laid("2;ab1:5;ab2:1", "59;49;19", "", 0);
        Check.refused("too short, and another is there", y, () -> y.takes(1, 0), -3);
        y.tow(2, 1);
        y.hours(1);
        Check.due("to the shed any goes", y.takes(2, NONE), 3);
    }

    private static void takesTaken() {
        Doc.says(12, "-4: another one is there, or towed there;");
        BridgesAreLent x = Check.object("2;ab9:1;ab1:1", "19;19", "");
        Check.due("free", x.takes(1, 0), 2);
        x.tow(0, 0);
        Check.refused("another is towed there", x, () -> x.takes(1, 0), -4);
        x.hours(1);
        Check.refused("another is towed there, an hour yet", x, () -> x.takes(1, 0), -4);
        x.hours(1);
        Check.refused("another is there", x, () -> x.takes(1, 0), -4);
        x.tow(0, NONE);
        Check.due("towed away, so free", x.takes(1, 0), 2);
        x.tow(1, 1);
        x.hours(9);
        Check.due("to the shed, where others are", x.takes(1, NONE), 3);
    }

    private static void takesNone() {
        Doc.says(12, "NONE: none such.");
        Edges.Making made = EdgesOfHours::usual;
        Edges.outside("bridge", made, 0, 2, (o, b) -> o.takes(b, 0), NONE);
        Edges.outside("bridge, to the shed", made, 0, 2, (o, b) -> o.takes(b, NONE), NONE);
        Edges.outside("crossing", made, NONE, 3, (o, c) -> o.takes(0, c), NONE);
        Edges.Making towed = () -> {
            BridgesAreLent o = usual();
            o.tow(0, 0);
            return o;
        };
        Edges.outside("crossing, towed", towed, NONE, 3, (o, c) -> o.takes(0, c), NONE);
        BridgesAreLent y = new BridgesAreLent();
        Check.due("no bridges", y.takes(0, NONE), NONE);
        Check.bridges(y, "11");
        Check.due("no crossings", y.takes(0, 0), NONE);
        Check.due("the shed is always there", y.takes(0, NONE), -2);
    }

    private static void towBegins() {
        Doc.says(13, "That tow begins: HOURS; it is there no more where it was.");
        BridgesAreLent x = Check.laid("2;ab9:1;ab18:1", "19;19", "a1", 0);
        Check.due("hours", x.tow(0, 1), 2);
        Check.due("hours yet", x.bridge(0, 3), 2);
        Check.due("where it goes", x.bridge(0, 2), 1);
        Check.due("there no more", x.crossing(0, 4), NONE);
        Check.due("joined no more", x.count(13), 0);
        Check.due("where it was is free", x.tow(1, 0), 2);
        Check.due("none in the shed", x.count(5), 0);
        x.hours(2);
        Check.due("to the shed", x.tow(0, NONE), 5);
        Check.due("not in the shed yet", x.count(5), 0);
    }

    private static void towAsTakes() {
        Doc.says(13, "-2, -3, -4, NONE: as takes().");
        Edges.Making made = () -> Check.laid(Check.RIVER, Check.BRIDGES, "", NONE, 0);
        int[][] want = {{0, NONE, -2}, {1, 0, -2}, {0, 3, -2}, {2, NONE, -2}, {2, 3, -3}, {1, 3, -3}, {2, 1, -3}, {2, 0, -4},
            {1, 1, -4}, {3, 0, NONE}, {-1, 0, NONE}, {0, 4, NONE}, {0, -2, NONE}};
        for (int[] w : want) {
            BridgesAreLent x = made.object();
            x.tow(0, 1);
            Check.refused("tow " + w[0] + " " + w[1], x, () -> x.tow(w[0], w[1]), w[2]);
            Check.due("takes " + w[0] + " " + w[1], x.takes(w[0], w[1]), w[2]);
        }
        Edges.outside("bridge", made, 0, 2, (o, b) -> o.tow(b, 3), NONE);
        Edges.outside("crossing", made, NONE, 3, (o, c) -> o.tow(1, c), NONE);
        BridgesAreLent y = made.object();
        Check.due("one that is taken", y.takes(1, 2), y.tow(1, 2));
    }

    private static void lendTill() {
        Doc.says(14, "A BRIDGE is lent till an HOUR behind NOW (999999 at most),");
        BridgesAreLent x = usual();
        Check.due("hour 1 at hour 0", x.lend(0, 1), NONE);
        x.hours(5);
        Check.due("hour 6 at hour 5", x.lend(0, 6), NONE);
        Check.due("the last hour", x.lend(0, 999999), 6);
        Check.due("till then", x.bridge(0, 4), 999999);
        Check.refused("behind it", x, () -> x.lend(0, 1000000), -2);
        Check.refused("now", x, () -> x.lend(0, 5), -2);
        Check.due("a sooner one", x.lend(0, 7), 999999);
    }

    private static void lendNoMore() {
        Doc.says(14, "or no more (hour NONE): till when it was lent (NONE: it was not).");
        BridgesAreLent x = usual();
        Check.due("it was not", x.lend(2, NONE), NONE);
        Check.due("it was not, till 9", x.lend(2, 9), NONE);
        Check.due("it was, till 9", x.lend(2, NONE), 9);
        Check.due("it is no more", x.bridge(2, 4), NONE);
        Check.due("it was not again", x.lend(2, 5), NONE);
        x.tow(2, 0);
        x.lend(2, NONE);
        x.hours(9);
        Check.due("no promise is broken", x.count(8), 0);
    }

    private static void lendAnotherHour() {
        Doc.says(14, "-2: another HOUR;");
        for (int hour : new int[] {0, -2, -999999, 1000000, Edges.LOWEST, Edges.GREATEST}) {
            BridgesAreLent y = usual();
            Check.refused("hour " + hour, y, () -> y.lend(0, hour), -2);
        }
        BridgesAreLent x = usual();
        x.hours(99);
        for (int hour : new int[] {0, 1, 98, 99}) {
            Check.refused("hour " + hour + " at hour 99", x, () -> x.lend(0, hour), -2);
        }
        Check.due("hour 100", x.lend(0, 100), NONE);
    }

    private static void lendNoBridge() {
        Doc.says(14, "-3: no such BRIDGE (asked first).");
        Edges.Making made = EdgesOfHours::usual;
        for (int hour : new int[] {NONE, 0, -2, 9, 1000000}) {
            Edges.outside("hour " + hour + ", bridge", made, 0, 2, (o, b) -> o.lend(b, hour), -3);
        }
        Check.due("no bridges", new BridgesAreLent().lend(0, 9), -3);
    }

    private static void crossGoes() {
        Doc.says(15, "One of PEOPLE goes by a CROSSING to its other BANK: which.");
        BridgesAreLent x = Check.laid("8;ha1:1", "19", "a1;h1", 0);
        Check.due("from the second as told", x.cross(0, 0), 7);
        Check.due("from the first as told", x.cross(1, 0), 0);
        Check.due("where they are", x.person(0, 0) * 10 + x.person(1, 0), 70);
        Check.due("back", x.cross(0, 0), 0);
    }

    private static void crossNeither() {
        Doc.says(15, "-2: it is at neither BANK;");
        BridgesAreLent x = Check.laid("3;ab1:1;bc1:1", "10;10", "c1;c9", 0);
        Check.refused("open for none", x, () -> x.cross(0, 0), -2);
        x.sheet(2, 1, 9, 0);
        Check.refused("open", x, () -> x.cross(0, 0), -2);
        BridgesAreLent y = Check.object("3;ab1:1", "", "c1");
        Check.refused("no bridge there", y, () -> y.cross(0, 0), -2);
    }

    private static void crossNotOpen() {
        Doc.says(15, "-3: it is not OPEN for it;");
        for (int sound = 0; sound <= 9; sound++) {
            for (int weight = 1; weight <= 9; weight++) {
                BridgesAreLent x = Check.laid("2;ab1:1", "1" + sound, "a" + weight, 0);
                Check.due("sound " + sound + ", weight " + weight, x.cross(0, 0), sound < weight ? -3 : 1);
            }
        }
        BridgesAreLent y = Check.object("2;ab9:1", "19", "a1");
        Check.refused("no bridge there", y, () -> y.cross(0, 0), -3);
        y.tow(0, 0);
        y.hours(1);
        Check.refused("an hour yet", y, () -> y.cross(0, 0), -3);
        y.hours(1);
        Check.due("there", y.cross(0, 0), 1);
        y.tow(0, NONE);
        Check.refused("towed away", y, () -> y.cross(0, 0), -3);
    }

    private static void crossNone() {
        Doc.says(15, "NONE: none such.");
        Edges.Making made = () -> Check.laid(Check.RIVER, Check.BRIDGES, "a1;b1;c1", NONE, 0);
        Edges.outside("person", made, 0, 2, (o, p) -> o.cross(p, 0), NONE);
        Edges.outside("crossing", made, 0, 3, (o, c) -> o.cross(0, c), NONE);
        Check.due("no river", new BridgesAreLent().cross(0, 0), NONE);
    }

    private static void crossWears() {
        Doc.says(15, "If SOUND of the BRIDGE is just its WEIGHT, it is 1 less then.");
        for (int weight = 1; weight <= 9; weight++) {
            for (int sound = weight; sound <= 9; sound++) {
                BridgesAreLent x = Check.laid("2;ab1:1", "1" + sound, "a" + weight, 0);
                x.cross(0, 0);
                Check.due("sound " + sound + ", weight " + weight, x.bridge(0, 1), sound == weight ? sound - 1 : sound);
            }
        }
        BridgesAreLent y = Check.laid("2;ab1:1", "15", "a5", 0);
        y.cross(0, 0);
        Check.refused("so there is no way back", y, () -> y.cross(0, 0), -3);
        Check.due("a refused one does not wear it", y.bridge(0, 1), 4);
    }

    private static void hoursGoBy() {
        Doc.says(16, "n HOURS (0 .. 99) go by: NOW;");
        int now = 0;
        BridgesAreLent x = usual();
        for (int n = 0; n <= 99; n++) {
            now += n;
            Check.due("hours of " + n, x.hours(n), now);
            Check.due("now", x.count(4), now);
        }
        Check.due("no river", new BridgesAreLent().hours(99), 99);
    }

    private static void hoursRow() {
        Doc.says(16, "those that are towed come nearer; promises are BROKEN: the ROW: BRIDGES that came (bits), that were BROKEN of (bits).");
        BridgesAreLent x = Check.object("2;ab0:1;ab9:1;ab18:1", "19;19;19;19;19;19", "");
        x.tow(0, 0);
        x.tow(1, 1);
        x.tow(5, 2);
        x.lend(0, 1);
        x.lend(5, 1);
        x.lend(4, 1);
        Check.due("no hours", x, x.hours(0), 0, 0, 0);
        Check.due("one comes, two promises are broken", x, x.hours(1), 1, 1, 33);
        Check.due("broken", x.count(8), 2);
        x.lend(1, 3);
        x.lend(0, 4);
        Check.due("all hours together", x, x.hours(3), 4, 34, 3);
        Check.due("broken in all", x.count(8), 4);
        Check.due("none", x, x.hours(99), 103, 0, 0);
        Check.due("broken still", x.count(8), 4);
    }

    private static void hoursRefused() {
        Doc.says(16, "Refused: another n.");
        Edges.Making made = () -> {
            BridgesAreLent o = usual();
            o.tow(0, 0);
            o.lend(0, 1);
            return o;
        };
        Edges.outside("hours", made, 0, 99, (o, n) -> o.hours(n), NONE);
    }
}
