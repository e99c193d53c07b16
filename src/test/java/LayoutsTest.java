/** Promises 24 to 30: BRIDGES laid out anew, floods. */
public final class LayoutsTest {
    private static final int NONE = BridgesAreLent.NONE;

    public static void main(String[] args) {
        lays();
        joins();
        night();
        errands();
        errandsRead();
        flood();
        highest();
        worst();
        Check.finish();
    }

    private static void lays() {
        BridgesAreLent x = Check.object("2;ab1:5;ab2:1;ab3:3;ab4:3", "55;35;15;45", "");
        Check.due("lays: none", x, x.lays(0), 1);
        Check.due("lays: the widest", x, x.lays(1), 1, 0);
        Check.due("lays: the narrowest by the first", x, x.lays(2), 1, 0);
        Check.due("lays: both", x, x.lays(3), 1, 0, 1);
        Check.due("lays: like ones", x, x.lays(12), 1, 0, 1);
        Check.due("lays: the last three", x, x.lays(14), 1, 0, 1, 3);
        Check.due("lays: all", x, x.lays(15), 1, 0, 2, 1, 3);
        Check.refused("lays: 16", x, () -> x.lays(16), NONE);
        Check.refused("lays: -1", x, () -> x.lays(-1), NONE);
        Check.refused("lays: lowest", x, () -> x.lays(Integer.MIN_VALUE), NONE);
        x.sheet(2, 2, 0, 0);
        Check.due("lays: sound is left aside", x, x.lays(15), 1, 0, 2, 1, 3);
        x.tow(0, 1);
        Check.due("lays: wherever they are", x, x.lays(15), 1, 0, 2, 1, 3);
        BridgesAreLent y = Check.object("2;ab1:5;ab2:5;ab3:1", "55;45;15;15", "");
        Check.due("lays: one is too short", x, x.lays(1), 1, 0);
        Check.due("lays: not both", y, y.lays(3), 0);
        Check.due("lays: one and the least", y, y.lays(6), 1, 0, 1);
        Check.due("lays: of three", y, y.lays(7), 0);
        Check.river(x, "2;ab1:1;ab1:2");
        Check.bridges(x, "29;19");
        Check.due("lays: a river anew", x, x.lays(3), 1, 1, 0);
        Check.river(x, "2;ab1:2;ab1:2");
        Check.bridges(x, "19;19");
        Check.due("lays: a river anew, all too short", x, x.lays(3), 0);
        BridgesAreLent z = Check.object("2" + Check.times(";ab1:1", 10), "15;15;15;15;15;15", "");
        Check.due("lays: six", z, z.lays(63 << 4), 1, 0, 1, 2, 3, 4, 5);
        Check.due("lays: seven", z, z.lays(127), 0);
        Check.refused("lays: bit 10", z, () -> z.lays(1024), NONE);
    }

    private static void joins() {
        BridgesAreLent x = Check.object("5;ab1:1;bc1:2;ac1:3;cd1:3;ab2:2", "35;25;10", "");
        Check.due("joins: none", x, x.joins(0), 0, 0);
        Check.due("joins: one", x, x.joins(16), 0, 0);
        Check.due("joins: a b", x, x.joins(3), 1, 1);
        Check.due("joins: a b c, the least", x, x.joins(7), 2, 3);
        Check.due("joins: a d, the only long one is needed twice", x, x.joins(9), 3, 11);
        Check.due("joins: a b c d", x, x.joins(15), 3, 11);
        Check.due("joins: b d", x, x.joins(10), 2, 10);
        Check.refused("joins: e", x, () -> x.joins(17), -2);
        Check.refused("joins: bank 5", x, () -> x.joins(32), NONE);
        Check.refused("joins: -1", x, () -> x.joins(-1), NONE);
        x.tow(0, 0);
        Check.due("joins: wherever they are", x, x.joins(15), 3, 11);
        BridgesAreLent y = Check.object("3;bc5:1;ab5:2;ab1:1", "11", "");
        Check.due("joins: one bridge, two crossings", y.joins(7), -2);
        Check.due("joins: long enough", y, y.joins(3), 1, 4);
    }

    private static void night() {
        BridgesAreLent x = Check.object("5;ab1:1;bc1:2;ac1:3;cd1:3;de1:9", "35;25", "");
        Check.due("night: the most, the least", x, x.night(), 3, 3);
        Check.bridges(x, "39");
        Check.due("night: three", x, x.night(), 6, 11);
        Check.bridges(x, "99");
        Check.due("night: four", x, x.night(), 10, 27);
        Check.bridges(x, "99");
        Check.due("night: the fewest of as good ones", x, x.night(), 10, 27);
        BridgesAreLent y = Check.object("4;cd1:1;cd2:1;ab1:1", "25", "");
        Check.due("night: one", y, y.night(), 1, 1);
        BridgesAreLent z = Check.object("4;cd1:1;ab1:1", "", "");
        Check.due("night: no bridges", z, z.night(), 0, 0);
        Check.due("night: nothing changes", z.count(13), 0);
    }

    private static void errands() {
        BridgesAreLent x = Check.object("6;ab1:1;bc1:2;cd1:1;ad1:2;ef1:3", "25;25;15", "");
        Check.due("errands: one", x, Check.errands(x, "ab"), 1, 1);
        Check.due("errands: two parts", x, Check.errands(x, "ab,dc"), 2, 5);
        Check.due("errands: the text", x.count(12), 0);
        Check.due("errands: the same twice", x, Check.errands(x, "ac,ca"), 2, 3);
        Check.due("errands: three", x, Check.errands(x, "ab,bc,cd"), 3, 7);
        Check.due("errands: eight", x, Check.errands(x, "ab,ac,ad,bc,bd,cd,ba,ca"), 3, 7);
        Check.write(x, "ef");
        Check.refused("errands: it can't be", x, x::errands, -2);
        Check.due("errands: it can't be: the text", x.count(12), 0);
    }

    private static void errandsAt(String text, int place) {
        BridgesAreLent x = Check.object("4;ab1:1;cd1:1", "15", "");
        x.hours(1);
        Check.write(x, text);
        Check.refused("errands " + text, x, x::errands, -1 - place);
        Check.due("errands " + text + ": the text", x.count(12), 0);
    }

    private static void errandsRead() {
        errandsAt("", 0);
        errandsAt(",", 0);
        errandsAt("e", 0);
        errandsAt("A", 0);
        errandsAt("a", 1);
        errandsAt("aa", 1);
        errandsAt("ae", 1);
        errandsAt("a,", 1);
        errandsAt("abc", 2);
        errandsAt("ab;", 2);
        errandsAt("ab,", 3);
        errandsAt("ab,ba,c", 7);
        errandsAt("ab,cc", 4);
        errandsAt(Check.times("ab,", 8), 24);
        errandsAt(Check.times("ab,", 8) + "ab", 24);
        errandsAt(Check.times("ab,", 8) + "x", 24);
        errandsAt(Check.times("ab,", 7) + "abx", 23);
        BridgesAreLent x = new BridgesAreLent();
        Check.write(x, "ab");
        Check.due("errands: no river", x.errands(), -1);
    }

    private static void flood() {
        BridgesAreLent x = Check.laid("4;ab1:1;bc1:2;cd1:3", "35;25;55;99", "", 0, 1, 2);
        Check.due("flood: 0", x, x.flood(0), 0, 6);
        Check.due("flood: 1", x, x.flood(1), 2, 2);
        Check.due("flood: 2", x, x.flood(2), 2, 2);
        Check.due("flood: 3", x, x.flood(3), 7, 0);
        Check.due("flood: 9", x, x.flood(9), 7, 0);
        Check.refused("flood: -1", x, () -> x.flood(-1), NONE);
        Check.refused("flood: 10", x, () -> x.flood(10), NONE);
        x.tow(1, NONE);
        Check.due("flood: one that is towed", x, x.flood(3), 5, 0);
        x.tow(3, 1);
        Check.due("flood: one that is towed there", x, x.flood(9), 5, 0);
        x.hours(9);
        Check.due("flood: the long one", x, x.flood(7), 5, 1);
        Check.due("flood: all", x, x.flood(8), 7, 0);
    }

    private static void highest() {
        BridgesAreLent x = Check.laid("3;ab1:1;ab2:1;bc1:2", "35;75;95;99", "", 0, 1);
        Check.due("highest: a second one holds", x, x.highest(), 6, 0);
        x.tow(2, 2);
        x.hours(9);
        Check.due("highest: still", x, x.highest(), 6, 1);
        BridgesAreLent y = Check.laid("2;ab1:9", "95", "", 0);
        Check.due("highest: none", y, y.highest(), 0, 0);
        BridgesAreLent z = Check.laid("2;ab1:1", "95", "", 0);
        Check.due("highest: 8", z, z.highest(), 8, 0);
        z.tow(0, NONE);
        Check.due("highest: 9", z, z.highest(), 9, NONE);
    }

    private static void worst() {
        BridgesAreLent x = Check.laid("5;ab1:1;ab2:1;bc1:1;cd1:1;de1:1", "15;15;15;15;15", "", 0, 1, 2, 3);
        Check.due("worst: 0", x, x.worst(0), 6, 0);
        Check.due("worst: 1", x, x.worst(1), 2, 4);
        Check.due("worst: 2", x, x.worst(2), 1, 12);
        Check.due("worst: 3, the least", x, x.worst(3), 1, 7);
        Check.refused("worst: -1", x, () -> x.worst(-1), NONE);
        Check.refused("worst: 4", x, () -> x.worst(4), NONE);
        x.tow(0, NONE);
        x.tow(1, NONE);
        Check.due("worst: 2 of 2", x, x.worst(2), 0, 12);
        Check.due("worst: 3 of 2", x, x.worst(3), 0, 12);
        Check.due("worst: 1 of 2", x, x.worst(1), 1, 4);
        x.tow(4, 4);
        Check.due("worst: one towed there", x, x.worst(3), 0, 12);
    }
}
