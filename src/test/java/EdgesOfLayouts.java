/** Promises 24 to 30: each bound that they name. */
final class EdgesOfLayouts {
    private static final int NONE = BridgesAreLent.NONE;
    /** Eight BANKS in a line: more CROSSINGS than there can be BRIDGES. */
    private static final String LINE = "8;ab1:1;bc1:1;cd1:1;de1:1;ef1:1;fg1:1;gh1:1";
    private static final String SIX = "19;19;19;19;19;19";

    private EdgesOfLayouts() {
    }

    static void all() {
        laysWhether();
        laysRow();
        laysNone();
        joinsFewest();
        joinsRow();
        joinsCant();
        joinsNone();
        nightMost();
        nightRow();
        errandsTold();
        errandsFewest();
        errandsRow();
        errandsCant();
        errandsCantStand();
        errandsEndTooEarly();
        errandsNoBank();
        errandsNinth();
        floodTooShort();
        floodRow();
        floodNone();
        highestGreatest();
        highestRow();
        worstLeft();
        worstFewer();
        worstRow();
        worstNone();
    }

    private static void laysWhether() {
        Doc.says(24, "Whether CROSSINGS told as bits can all have BRIDGES at once: 1, or 0;");
        for (int from = 0; from < 1024; from += 256) {
            BridgesAreLent x = Check.object("2" + Check.times(";ab1:1", 10), SIX, "");
            for (int those = from; those < from + 256; those++) {
                Check.due("of ten, " + those, x.lays(those), Integer.bitCount(those) <= 6 ? 1 : 0);
            }
        }
        BridgesAreLent y = Check.object("2;ab1:9;ab1:9;ab1:5", "99;89;59", "");
        Check.due("just as long", y.lays(5), 1);
        Check.due("a second one is too short by 1", y.lays(3), 0);
        BridgesAreLent z = Check.object("2;ab1:1", "", "");
        Check.due("no bridges", z.lays(1), 0);
        Check.due("no bridges, no crossings", z.lays(0), 1);
        Check.due("a new object", new BridgesAreLent().lays(0), 1);
        // of a river anew neither WIDTHS nor LENGTHS of the one ahead count
        BridgesAreLent w = Check.object("2;ab1:9", "", "");
        Check.due("wide, no bridges", w.lays(1), 0);
        Check.river(w, "2;ab1:1");
        Check.bridges(w, "19");
        Check.due("narrow, a short one", w.lays(1), 1);
        Check.river(w, "2;ab1:1");
        Check.bridges(w, "99");
        Check.due("narrow, a long one", w.lays(1), 1);
        Check.river(w, "2;ab1:9");
        Check.bridges(w, "89");
        Check.due("wide, a short one", w.lays(1), 0);
    }

    private static void laysRow() {
        Doc.says(24, "the ROW: by CROSSINGS told, rising, which: the least row (nothing for 0).");
        BridgesAreLent x = Check.object("2;ab1:1;ab1:3;ab1:2;ab1:9", "39;29;19;39", "");
        Check.due("none", x, x.lays(0), 1);
        Check.due("the first for the narrowest", x, x.lays(1), 1, 0);
        Check.due("so that the rest can have theirs", x, x.lays(3), 1, 0, 3);
        Check.due("three", x, x.lays(7), 1, 0, 3, 1);
        Check.due("0: nothing", x, x.lays(8), 0);
        x.lays(1);
        Check.due("0: nothing, where there was something", x, x.lays(15), 0);
        BridgesAreLent y = Check.laid("2;ab1:1;ab1:3", "39;19", "", 0, NONE);
        Check.due("wherever they are", y, y.lays(3), 1, 1, 0);
        y.tow(0, NONE);
        Check.due("though towed", y, y.lays(3), 1, 1, 0);
        BridgesAreLent z = Check.object("2" + Check.times(";ab1:1", 10), SIX, "");
        Check.due("six", z, z.lays(0b1101101010), 1, 0, 1, 2, 3, 4, 5);
    }

    private static void laysNone() {
        Doc.says(24, "NONE: bits of none such.");
        Edges.Making made = () -> Check.object("2;ab1:1;ab2:1;ab3:1", "19;19;19", "");
        BridgesAreLent x = made.object();
        Edges.taken("lays", 0, 7, x::lays);
        Edges.outside("lays", made, 0, 7, BridgesAreLent::lays, NONE);
        Check.refused("bit 3, and others", x, () -> x.lays(15), NONE);
        Edges.Making madeToo = () -> Check.object("2" + Check.times(";ab1:1", 10), SIX, "");
        Edges.outside("lays, ten", madeToo, 0, 1023, BridgesAreLent::lays, NONE);
        Edges.Making madeLast = () -> new BridgesAreLent();
        Edges.outside("lays, none", madeLast, 0, 0, BridgesAreLent::lays, NONE);
    }

    private static void joinsFewest() {
        Doc.says(25, "The fewest CROSSINGS with BRIDGES by which BANKS told as bits are all JOINED: how many;");
        BridgesAreLent x = Check.object(LINE, SIX, "");
        for (int banks = 1; banks <= 7; banks++) {
            Check.due("the first " + banks, x.joins((1 << banks) - 1), banks - 1);
            Check.due("two, so far apart", x.joins(1 | 1 << banks - 1), banks - 1);
            Check.due("one alone", x.joins(1 << banks), 0);
        }
        Check.due("no banks", x, x.joins(0), 0, 0);
        BridgesAreLent y = Check.object("4;ab1:1;bc1:1;cd1:1;ad1:9", "19;19;19", "");
        Check.errands(y, "ab,bc,cd");
        Check.due("errands told ahead of it do not count", y, y.joins(3), 1, 1);
        Check.due("the wide one can't", y, y.joins(9), 3, 7);
        Check.bridges(y, "90");
        Check.due("the wide one can", y, y.joins(9), 1, 8);
    }

    private static void joinsRow() {
        Doc.says(25, "the ROW: they (bits; of as few the least).");
        BridgesAreLent x = Check.object("4;ab1:1;ac1:1;cd1:1;bd1:1", "19;19;19;19", "");
        Check.due("1 2 are less bits than 0 3", x, x.joins(9), 2, 6);
        Check.due("all four", x, x.joins(15), 3, 7);
        BridgesAreLent y = Check.object("2" + Check.times(";ab1:9", 9) + ";ab1:1", SIX, "");
        Check.due("the last alone", y, y.joins(3), 1, 512);
        y = Check.object("2" + Check.times(";ab1:1", 10), SIX, "");
        Check.due("the first of ten", y, y.joins(3), 1, 1);
    }

    private static void joinsCant() {
        Doc.says(25, "-2: it can't be;");
        BridgesAreLent x = Check.object(LINE, SIX, "");
        Check.refused("more than six crossings", x, () -> x.joins(255), -2);
        Check.refused("the first and the last", x, () -> x.joins(129), -2);
        BridgesAreLent y = Check.object("3;ab1:2", "19;19", "");
        Check.refused("all too short", y, () -> y.joins(3), -2);
        Check.refused("no crossing there", y, () -> y.joins(6), -2);
    }

    private static void joinsNone() {
        Doc.says(25, "NONE: bits of none such.");
        Edges.Making made = () -> Check.object("3;ab1:1;bc1:1;ac1:1;ab1:1", SIX, "");
        BridgesAreLent x = made.object();
        Edges.taken("joins", 0, 7, x::joins);
        Edges.outside("joins", made, 0, 7, BridgesAreLent::joins, NONE);
        Edges.Making madeToo = () -> Check.object(LINE, SIX, "");
        Edges.outside("joins, eight", madeToo, 0, 255, BridgesAreLent::joins, NONE);
        Edges.Making madeLast = () -> new BridgesAreLent();
        BridgesAreLent z = madeLast.object();
        Edges.taken("joins, none", 0, 0, z::joins);
        Edges.outside("joins, none", madeLast, 0, 0, BridgesAreLent::joins, NONE);
    }

    private static void nightMost() {
        Doc.says(26, "The most PAIRS by BRIDGES laid out anew: how many;");
        int[] most = {0, 1, 3, 6, 10, 15, 21};
        for (int bridges = 0; bridges <= 6; bridges++) {
            String told = Check.times("10;", bridges);
            BridgesAreLent x = Check.object(LINE, told.substring(0, Math.max(0, told.length() - 1)), "");
            Check.due("bridges " + bridges, x.night(), most[bridges]);
        }
        BridgesAreLent y = Check.laid("3;ab1:1;ab2:1;bc1:1", "19;19", "", 0, 1);
        Check.due("laid out anew", y, y.night(), 3, 5);
        Check.due("nothing changes", y.count(13), 1);
        BridgesAreLent z = new BridgesAreLent();
        Check.due("a new object", z, z.night(), 0, 0);
    }

    private static void nightRow() {
        Doc.says(26, "the ROW: CROSSINGS (bits; of as good ones those with the fewest, then the least bits).");
        BridgesAreLent x = Check.object(LINE, "19", "");
        Check.due("the least bits", x, x.night(), 1, 1);
        BridgesAreLent y = Check.object("3;ab1:1;ba1:1;ab1:1", SIX, "");
        Check.due("the fewest", y, y.night(), 1, 1);
        BridgesAreLent z = Check.object("3;ab1:9;ba1:1;bc1:9;ca1:1", "19;19;19", "");
        Check.due("those that are not too wide", z, z.night(), 3, 10);
        BridgesAreLent w = Check.object("3;ab1:1;bc1:1;ca1:1", "19;19;19", "");
        Check.due("two of a ring", w, w.night(), 3, 3);
        BridgesAreLent v = Check.object("2;ab1:1", "", "");
        Check.due("no bridges", v, v.night(), 0, 0);
    }

    private static BridgesAreLent ring() {
        return Check.object("4;ab1:1;bc1:1;cd1:1;da1:1", "19;19;19;19", "");
    }

    private static void at(String text, int place) {
        Edges.at(ring(), BridgesAreLent::errands, text, place);
    }

    private static void done(BridgesAreLent x, String text, int want, int bits) {
        Check.write(x, text);
        Check.due(text, x, x.errands(), want, bits);
        Check.due(text + ": THE TEXT is empty", x.count(12), 0);
    }

    private static void errandsTold() {
        Doc.says(27, "THE TEXT tells ERRANDS (1 to 8, with , between: two unlike letters of BANKS):");
        for (int n = 1; n <= 8; n++) {
            done(ring(), Check.times("ab,", n).substring(0, 3 * n - 1), 1, 1);
        }
        done(Check.object("8;ah1:1", "19", ""), "ha", 1, 1);
        at("", 0);
        at(",", 0);
        at("ab;cd", 2);
        at("abcd", 2);
        at("ab,,cd", 3);
        at("aa", 1);
        at("ae", 1);
        at("a1", 1);
    }

    private static void errandsFewest() {
        Doc.says(27, "the fewest CROSSINGS with BRIDGES by which the BANKS of each are JOINED: how many;");
        done(ring(), "ab,cd", 2, 5);
        done(ring(), "ac", 2, 3);
        done(ring(), "ac,bd", 3, 7);
        done(ring(), "ab,bc,cd,da,ac,bd,ba,ca", 3, 7);
        done(Check.object(LINE, SIX, ""), "ab,cd,ef,gh", 4, 0b1010101);
        done(Check.object(LINE, SIX, ""), "ag", 6, 63);
        done(Check.object("8;ab1:1;cd1:1", "19;19", ""), "ab", 1, 1);
    }

    private static void errandsRow() {
        Doc.says(27, "the ROW: they (bits; of as few the least).");
        done(Check.object("4;ab1:1;ac1:1;cd1:1;bd1:1", "19;19", ""), "ad", 2, 6);
        done(Check.object("2;ab1:2;ab1:1;ab1:1", "19;19", ""), "ab,ba", 1, 2);
        done(Check.object("2" + Check.times(";ab1:9", 9) + ";ab1:1", "19", ""), "ab", 1, 512);
    }

    private static void errandsCant() {
        Doc.says(27, "-2: it can't be;");
        BridgesAreLent x = Check.object(LINE, SIX, "");
        x.night();
        Check.write(x, "ah");
        Check.refused("more than six crossings", x, x::errands, -2);
        Check.due("THE TEXT is empty", x.count(12), 0);
        Check.write(x, "ad,eh,ae");
        Check.refused("more than six crossings by three", x, x::errands, -2);
        done(x, "ad,eh", 6, 0b1110111);
        BridgesAreLent y = Check.object("3;ab1:2", "19", "");
        Check.write(y, "ab");
        Check.refused("too short", y, y::errands, -2);
        Check.write(y, "ac");
        Check.refused("no crossing there", y, y::errands, -2);
    }

    private static void errandsCantStand() {
        Doc.says(27, "-1 - p: the sign at p can't stand there");
        String text = "ab,cd,da";
        for (int p = 0; p < text.length(); p++) {
            for (char wrong : new char[] {'.', 0, 255, ';', 'e', 'A'}) {
                at(text.substring(0, p) + wrong + text.substring(p + 1), p);
            }
        }
        at(text + ".", text.length());
        at(text + "b", text.length());
        String[][] some = {{"", "abcd"}, {"a", "bcd"}, {"c", "abd"}, {"ab", ","}, {"ab,", "abcd"}, {"ab,d", "abc"},
            {Check.times("ab,", 7) + "ab", ","}, {Check.times("ab,", 8), ""}};
        for (String[] s : some) {
            Edges.signs(EdgesOfLayouts::ring, BridgesAreLent::errands, s[0], s[1]);
        }
    }

    private static void errandsEndTooEarly() {
        Doc.says(27, "(its end, if it ends too early;");
        String text = "ab,cd,da,ac,bd,ba,dc,ad";
        for (int n = 0; n < text.length(); n++) {
            if (n % 3 == 2) {
                Check.due(text.substring(0, n), Check.errands(ring(), text.substring(0, n)) > 0, true);
            } else {
                at(text.substring(0, n), n);
            }
        }
        Check.due("eight", Check.errands(ring(), text), 3);
    }

    private static void errandsNoBank() {
        Doc.says(27, "a letter of no BANK, or like the one ahead;");
        at("eb", 0);
        at("`b", 0);
        at("ae", 1);
        at("Ab", 0);
        at("ab,he", 3);
        at("bb", 1);
        at("ab,dd", 4);
        done(ring(), "ab,bc", 2, 3);
        Edges.at(Check.object("8;gh1:1", "19", ""), BridgesAreLent::errands, "hi", 1);
        done(Check.object("8;gh1:1", "19", ""), "hg", 1, 1);
        Edges.at(new BridgesAreLent(), BridgesAreLent::errands, "ab", 0);
    }

    private static void errandsNinth() {
        Doc.says(27, "the first letter of a ninth).");
        String eight = "ab,ab,ab,ab,ab,ab,ab,ab";
        done(ring(), eight, 1, 1);
        at(eight + ",ab", 24);
        at(eight + ",a", 24);
        at(eight + ",", 24);
        at(eight + ",x", 24);
        at(eight + ";", 23);
        at(eight + Check.times(",ab", 19), 24);
    }

    private static void floodTooShort() {
        Doc.says(28, "CROSSINGS (bits) at which BRIDGES are that are too short, if each WIDTH is v (0 .. 9) more;");
        for (int width = 1; width <= 9; width++) {
            for (int length = width; length <= 9; length++) {
                BridgesAreLent x = Check.laid("2;ab1:1;ab1:" + width, length + "9", "", 1);
                for (int v = 0; v <= 9; v++) {
                    Check.due("width " + width + ", length " + length + ", v " + v, x.flood(v), width + v > length ? 2 : 0);
                }
            }
        }
        BridgesAreLent y = Check.object("2;ab9:1", "19", "");
        Check.due("in the shed", y.flood(9), 0);
        y.tow(0, 0);
        Check.due("towed there", y.flood(9), 0);
        y.hours(2);
        Check.due("there", y.flood(9), 1);
        Check.due("nothing is lost by it", y.count(13), 1);
    }

    private static void floodRow() {
        Doc.says(28, "the ROW: PAIRS that are left without these.");
        BridgesAreLent x = Check.laid("4;ab1:1;bc1:1;cd1:1", "19;29;39", "", 0, 1, 2);
        Check.due("none", x, x.flood(0), 0, 6);
        Check.due("one", x, x.flood(1), 1, 3);
        Check.due("two", x, x.flood(2), 3, 1);
        Check.due("three", x, x.flood(3), 7, 0);
        Check.due("nine", x, x.flood(9), 7, 0);
        x.sheet(2, 0, 0, 0);
        Check.due("sound 0 counts too", x, x.flood(0), 0, 6);
        Check.rule(x, "1");
        x.tow(0, NONE);
        x.hours(1);
        x.tow(0, 0);
        Check.due("one that is towed there, an hour yet, does not", x, x.flood(0), 0, 3);
    }

    private static void floodNone() {
        Doc.says(28, "NONE: another v.");
        Edges.Making made = () -> Check.laid("2;ab1:1", "99", "", 0);
        BridgesAreLent x = made.object();
        Edges.taken("flood", 0, 9, x::flood);
        Edges.outside("flood", made, 0, 9, BridgesAreLent::flood, NONE);
    }

    private static void highestGreatest() {
        Doc.says(29, "The greatest v (0 .. 9) with which, as with all lesser ones, no PAIR is lost by flood(): it;");
        for (int length = 1; length <= 9; length++) {
            BridgesAreLent x = Check.laid("2;ab1:1", length + "9", "", 0);
            Check.due("width 1, length " + length, x.highest(), length - 1);
        }
        BridgesAreLent y = Check.laid("2;ab1:1;ab2:1", "19;79", "", 0, 1);
        Check.due("one is lost, but no pair", y.highest(), 6);
        Check.due("no bridges", Check.object("2;ab1:1", "", "").highest(), 9);
        Check.due("in the shed", Check.object("2;ab1:1", "99", "").highest(), 9);
        Check.due("a new object", new BridgesAreLent().highest(), 9);
    }

    private static void highestRow() {
        Doc.says(29, "the ROW: PAIRS that are left with 1 more (NONE: v is 9).");
        BridgesAreLent x = Check.laid("4;ab1:1;bc1:1;cd1:1", "59;39;99", "", 0, 1, 2);
        Check.due("the shortest", x, x.highest(), 2, 2);
        x.tow(1, NONE);
        Check.due("without it", x, x.highest(), 4, 1);
        x.tow(0, NONE);
        Check.due("8", x, x.highest(), 8, 0);
        x.tow(2, NONE);
        Check.due("9", x, x.highest(), 9, NONE);
        BridgesAreLent y = Check.laid("3;ab1:1;bc1:1", "50;30", "", 0);
        Check.due("sound 0 counts too", y, y.highest(), 4, 0);
        Check.rule(y, "1");
        y.tow(1, 1);
        Check.due("one that is towed there, an hour yet, does not", y, y.highest(), 4, 0);
        y.hours(1);
        Check.due("it came", y, y.highest(), 2, 1);
    }

    private static void worstLeft() {
        Doc.says(30, "PAIRS that would be left at the least, if BRIDGES of n CROSSINGS (0 .. 3;");
        BridgesAreLent x = Check.laid("8;ab1:1;bc1:1;cd1:1;de1:1;ef1:1;fg1:1", SIX, "", 0, 1, 2, 3, 4, 5);
        int[] left = {21, 9, 5, 3};
        for (int n = 0; n <= 3; n++) {
            Check.due("of seven banks in a line, " + n, x.worst(n), left[n]);
        }
        Check.due("nothing is lost by it", x.count(13), 21);
        BridgesAreLent y = Check.laid("3;ab1:1;bc1:1", "10;10", "", 0);
        Check.due("sound 0 counts too", y, y.worst(0), 1, 0);
        Check.rule(y, "1");
        y.tow(1, 1);
        Check.due("one that is towed there, an hour yet, does not", y, y.worst(0), 1, 0);
        Check.due("nor is it lost", y, y.worst(3), 0, 1);
    }

    private static void worstFewer() {
        Doc.says(30, "all at which some are, if these are fewer) were lost: how many;");
        BridgesAreLent x = Check.laid("4;ab1:1;bc1:1;cd1:1;ad1:1", "19;19;19;19", "", 0, 1, 2);
        Check.due("three of three", x, x.worst(3), 0, 7);
        x.tow(0, 3);
        Check.due("three, where two are", x, x.worst(3), 0, 6);
        Check.due("two of two", x, x.worst(2), 0, 6);
        x.tow(1, NONE);
        Check.due("three, where one is", x, x.worst(3), 0, 4);
        x.tow(2, NONE);
        for (int n = 0; n <= 3; n++) {
            Check.due("where none is", x, x.worst(n), 0, 0);
        }
        BridgesAreLent y = new BridgesAreLent();
        Check.due("a new object", y, y.worst(3), 0, 0);
    }

    private static void worstRow() {
        Doc.says(30, "the ROW: which CROSSINGS (bits; of as bad ones the least).");
        BridgesAreLent x = Check.laid("8;ab1:1;bc1:1;cd1:1;de1:1;ef1:1;fg1:1", SIX, "", 0, 1, 2, 3, 4, 5);
        Check.due("none", x, x.worst(0), 21, 0);
        Check.due("of two as bad ones the least", x, x.worst(1), 9, 4);
        Check.due("two", x, x.worst(2), 5, 0b1010);
        BridgesAreLent y = Check.laid("2" + Check.times(";ab1:1", 10), SIX, "", 9, 8, 7, 6, 5, 4);
        Check.due("no pair is lost: the least", y, y.worst(3), 1, 0b1110000);
        Check.due("no pair is lost: the least one", y, y.worst(1), 1, 0b10000);
    }

    private static void worstNone() {
        Doc.says(30, "NONE: another n.");
        Edges.Making made = () -> Check.laid("2;ab1:1", "99", "", 0);
        BridgesAreLent x = made.object();
        Edges.taken("worst", 0, 3, x::worst);
        Edges.outside("worst", made, 0, 3, BridgesAreLent::worst, NONE);
    }
}
