/** Promises 8 to 11: each bound that they name. */
final class EdgesOfLooks {
    private static final int NONE = BridgesAreLent.NONE;
    private static final int[] FAR = {Edges.LOWEST, Edges.GREATEST, 256, -256, 65536};

    private EdgesOfLooks() {
    }

    static void all() {
        crossingTells();
        crossingHasNone();
        crossingMissing();
        bridgeTells();
        bridgeMissing();
        personTells();
        personMissing();
        sheetEntries();
        sheetBits();
        sheetPut();
        sheetBehind();
        sheetBelowNothing();
        sheetMissing();
        sheetNone();
    }

    private static void crossingTells() {
        Doc.says(8, "Of a CROSSING, what 0, 1: its BANKS (as told), 2: PLACE, 3: WIDTH, 4: the BRIDGE that is there,"
                + " 5: that is towed there");
        BridgesAreLent x = Check.laid("8;ha99:9;ah0:1", "99;19;19", "", 0);
        x.tow(2, 1);
        int[][] want = {{7, 0, 99, 9, 0, NONE}, {0, 7, 0, 1, NONE, 2}};
        for (int c = 0; c < 2; c++) {
            for (int what = 0; what <= 5; what++) {
                Check.due("crossing " + c + ", what " + what, x.crossing(c, what), want[c][what]);
            }
        }
        x.hours(1);
        Check.due("it came", x.crossing(1, 4), 2);
        Check.due("it is towed no more", x.crossing(1, 5), NONE);
    }

    private static void crossingHasNone() {
        Doc.says(8, "(NONE each).");
        BridgesAreLent x = Check.object("2;ab9:1", "19", "");
        Check.due("none there", x.crossing(0, 4), NONE);
        Check.due("none towed there", x.crossing(0, 5), NONE);
        x.tow(0, 0);
        Check.due("towed there, not there", x.crossing(0, 4), NONE);
        Check.due("bridge 0 is not none", x.crossing(0, 5), 0);
        x.hours(2);
        Check.due("there", x.crossing(0, 4), 0);
        x.tow(0, NONE);
        Check.due("towed to the shed", x.crossing(0, 4) + x.crossing(0, 5), 2 * NONE);
        x.hours(9);
        Check.due("in the shed", x.crossing(0, 4) + x.crossing(0, 5), 2 * NONE);
    }

    private static void crossingMissing() {
        Doc.says(8, "NoSuchElementException: none such, another what.");
        BridgesAreLent x = Check.object("2;ab9:1;ab8:1", "", "");
        for (int what = 0; what <= 5; what++) {
            int of = what;
            Edges.missing("crossing, what " + what, 0, 1, c -> x.crossing(c, of));
        }
        for (int c = 0; c <= 1; c++) {
            int of = c;
            Edges.missing("what of crossing " + c, 0, 5, what -> x.crossing(of, what));
        }
        Check.missing("no river", () -> new BridgesAreLent().crossing(0, 0));
        for (int far : FAR) {
            Check.missing("far", () -> x.crossing(far, far));
        }
    }

    private static void bridgeTells() {
        Doc.says(9, "Of a BRIDGE, what 0: LENGTH, 1: SOUND, 2: the CROSSING where it is or to which it is towed (NONE THE SHED),"
                + " 3: HOURS yet, till it is there (0: it is), 4: the HOUR till which it is lent (NONE).");
        BridgesAreLent x = Check.laid("2;ab9:1;ab18:1", "90;19;15;16", "", 0);
        x.tow(1, 1);
        x.tow(0, NONE);
        x.lend(2, 999999);
        int[][] want = {{9, 0, NONE, 4, NONE}, {1, 9, 1, 3, NONE}, {1, 5, NONE, 0, 999999}, {1, 6, NONE, 0, NONE}};
        for (int b = 0; b < want.length; b++) {
            for (int what = 0; what <= 4; what++) {
                Check.due("bridge " + b + ", what " + what, x.bridge(b, what), want[b][what]);
            }
        }
        x.hours(3);
        Check.due("an hour yet", x.bridge(0, 3), 1);
        Check.due("it is there", x.bridge(1, 3), 0);
        Check.due("where it is", x.bridge(1, 2), 1);
        x.hours(1);
        Check.due("it is in the shed", x.bridge(0, 3), 0);
    }

    private static void bridgeMissing() {
        Doc.says(9, "NoSuchElementException: likewise.");
        BridgesAreLent x = Check.object("2;ab9:1;ab8:1;ab7:1", "11;11", "");
        for (int what = 0; what <= 4; what++) {
            int of = what;
            Edges.missing("bridge, what " + what, 0, 1, b -> x.bridge(b, of));
        }
        for (int b = 0; b <= 1; b++) {
            int of = b;
            Edges.missing("what of bridge " + b, 0, 4, what -> x.bridge(of, what));
        }
        for (int far : FAR) {
            Check.missing("far", () -> x.bridge(far, far));
        }
    }

    private static void personTells() {
        Doc.says(10, "Of one of PEOPLE, what 0: the BANK, 1: WEIGHT.");
        BridgesAreLent x = Check.laid("8;ah1:1", "19", "h1;a9;d5", 0);
        int[][] want = {{7, 1}, {0, 9}, {3, 5}};
        for (int p = 0; p < want.length; p++) {
            Check.due("person " + p + ": bank", x.person(p, 0), want[p][0]);
            Check.due("person " + p + ": weight", x.person(p, 1), want[p][1]);
        }
        x.cross(0, 0);
        Check.due("where it went", x.person(0, 0), 0);
        Check.due("its weight stays", x.person(0, 1), 1);
    }

    private static void personMissing() {
        Doc.says(10, "NoSuchElementException: likewise.");
        BridgesAreLent x = Check.object("2;ab9:1;ab8:1;ab7:1", "11;11;11", "a1;b2");
        for (int what = 0; what <= 1; what++) {
            int of = what;
            Edges.missing("person, what " + what, 0, 1, p -> x.person(p, of));
        }
        for (int p = 0; p <= 1; p++) {
            int of = p;
            Edges.missing("what of person " + p, 0, 1, what -> x.person(of, what));
        }
        for (int far : FAR) {
            Check.missing("far", () -> x.person(far, far));
        }
    }

    private static BridgesAreLent six() {
        return Check.object("2", "15;15;15;15;15;15", "");
    }

    private static void sounds(String what, BridgesAreLent x, String want) {
        StringBuilder got = new StringBuilder();
        for (int b = 0; b < x.count(2); b++) {
            got.append(x.bridge(b, 1));
        }
        Check.due(what + ": sound of all", got.toString(), want);
    }

    private static void sheet(int kind, int n, int f, int step, String want) {
        BridgesAreLent x = six();
        String what = "sheet(" + kind + ", " + n + ", " + f + ", " + step + ")";
        Check.due(what, x.sheet(kind, n, f, step), want.chars().map(c -> c - '0').sum());
        sounds(what, x, want);
    }

    private static void sheetEntries() {
        Doc.says(11, "SOUND of BRIDGES 0, 1, .., as a sheet tells it: bytes (kind 0), shorts (1), ints (2) of n entries f, f + step, ..");
        for (int kind = 0; kind <= 2; kind++) {
            sheet(kind, 6, 1, 1, "123456");
            sheet(kind, 6, 9, -1, "987654");
            sheet(kind, 6, 4, 0, "444444");
            sheet(kind, 1, 7, 1, "700000");
            sheet(kind, 0, 7, 1, "000000");
        }
        // entries wrap around as ints do
        sheet(2, 3, Edges.GREATEST, 1, "900000");
        sheet(2, 3, Edges.LOWEST, -1, "099000");
        sheet(2, 6, -1 << 30, 1 << 30, "009000");
        sheet(2, 4, 5, Edges.LOWEST, "505000");
    }

    private static void sheetBits() {
        Doc.says(11, "(of bytes, shorts the lowest bits, with their sign;");
        sheet(0, 6, 125, 1, "999000");
        sheet(0, 6, 253, 1, "000012");
        sheet(0, 6, 256, 1, "012345");
        sheet(0, 6, -256, 1, "012345");
        sheet(0, 2, 65536 + 7, 256, "770000");
        sheet(0, 2, Edges.LOWEST + 3, 0, "330000");
        sheet(1, 6, 253, 1, "999999");
        sheet(1, 6, 32765, 1, "999000");
        sheet(1, 6, 65533, 1, "000012");
        sheet(1, 6, -65536, 1, "012345");
        sheet(1, 2, Edges.LOWEST + 3, 0, "330000");
        sheet(2, 2, 32768, 1, "990000");
        sheet(2, 2, 65536, -65536, "900000");
        sheet(2, 1, Edges.LOWEST + 3, 0, "000000");
    }

    private static void sheetPut() {
        Doc.says(11, "put to 0 .. 9),");
        for (int kind = 0; kind <= 2; kind++) {
            sheet(kind, 6, -2, 1, "000123");
            sheet(kind, 6, 7, 1, "789999");
            sheet(kind, 2, 127, -255, "900000");
        }
        sheet(2, 2, Edges.GREATEST, 0, "990000");
        sheet(2, 2, Edges.LOWEST, 0, "000000");
    }

    private static void sheetBehind() {
        Doc.says(11, "or a missing one (3): those behind it have 0: the sum of all.");
        for (int n = 0; n <= 6; n++) {
            sheet(2, n, 5, 0, "555555".substring(0, n) + "000000".substring(n));
        }
        BridgesAreLent x = Check.object("2", "15;15", "");
        Check.due("entries of which there is no bridge", x.sheet(2, 6, 3, 1), 7);
        sounds("two bridges", x, "34");
        Check.bridges(x, "17");
        sounds("one that came since", x, "347");
        Check.due("no bridges", new BridgesAreLent().sheet(2, 6, 3, 1), 0);
    }

    private static void sheetBelowNothing() {
        Doc.says(11, "-2: n below 0 (of kinds 0 .. 2; nothing changes);");
        for (int kind = 0; kind <= 2; kind++) {
            for (int n : new int[] {-1, -6, Edges.LOWEST}) {
                BridgesAreLent x = six();
                int of = kind;
                Check.refused("kind " + kind + ", n " + n, x, () -> x.sheet(of, n, 1, 1), -2);
                sounds("kind " + kind + ", n " + n, x, "555555");
            }
        }
    }

    private static void sheetMissing() {
        Doc.says(11, "-3: missing (all 0).");
        for (int n : new int[] {0, 6, 3, -1, Edges.LOWEST}) {
            BridgesAreLent x = six();
            Check.due("missing, n " + n, x.sheet(3, n, 1, 1), -3);
            sounds("missing, n " + n, x, "000000");
        }
        Check.due("missing, no bridges", new BridgesAreLent().sheet(3, 0, 1, 1), -3);
    }

    private static void sheetNone() {
        Doc.says(11, "NONE: another kind, n above 6 (these first).");
        for (int n : new int[] {-1, 0, 6, 7}) {
            Edges.outside("n " + n + ", kind", EdgesOfLooks::six, 0, 3, (o, kind) -> o.sheet(kind, n, 1, 1), NONE);
        }
        for (int kind = 0; kind <= 3; kind++) {
            int of = kind;
            Edges.outside("kind " + kind + ", n", EdgesOfLooks::six, Edges.LOWEST, 6, (o, n) -> o.sheet(of, n, 1, 1), NONE);
            BridgesAreLent x = six();
            x.sheet(kind, 7, 1, 1);
            sounds("they stay, kind " + kind, x, "555555");
        }
    }
}
