/** Promises 31 to 41: drift, thefts, two who share, loans, years. */
public final class ChanceTest {
    private static final int NONE = BridgesAreLent.NONE;

    public static void main(String[] args) {
        drift();
        driftRefused();
        seek();
        found();
        stolen();
        ask();
        share();
        turn();
        rests();
        home();
        years();
        yearsOfOne();
        Check.finish();
    }

    /** Down the river: 3 (place 5), 0 (place 10), 2 (place 10), 1 (place 50). */
    private static final String DOWN = "3;ab10:3;bc50:4;ac10:9;ab5:5";

    private static void drift() {
        BridgesAreLent x = Check.laid(DOWN, "53;99", "", 3);
        Check.due("drift: no nights", x, x.drift(0, 5, 0, 3), 0, 1, 1);
        Check.due("drift: no nights, elsewhere", x, x.drift(0, 5, 0, 0), 0, 0, 1);
        Check.due("drift: one night", x, x.drift(0, 5, 1, 0), 0, 1, 2);
        Check.due("drift: it stays", x, x.drift(0, 3, 1, 3), 0, 7, 10);
        Check.due("drift: it goes", x, x.drift(0, 3, 1, 0), 0, 3, 10);
        Check.due("drift: like places by numbers", x, x.drift(0, 10, 2, 2), 0, 1, 1);
        Check.due("drift: to the last", x, x.drift(0, 10, 3, 1), 0, 1, 1);
        Check.due("drift: at the last", x, x.drift(0, 10, 12, 1), 0, 1, 1);
        Check.due("drift: never", x, x.drift(0, 0, 12, 3), 0, 1, 1);
        Check.due("drift: never elsewhere", x, x.drift(0, 0, 12, 0), 0, 0, 1);
        Check.due("drift: two of three", x, x.drift(0, 2, 3, 2), 0, 12, 125);
        Check.due("drift: last of four", x, x.drift(0, 2, 4, 1), 0, 17, 625);
        Check.due("drift: 12 nights", x, x.drift(0, 1, 12, 3), 0, 282429536481L, 1000000000000L);
        x.tow(0, 0);
        x.hours(9);
        Check.due("drift: never up", x, x.drift(0, 5, 12, 3), 0, 0, 1);
        Check.due("drift: lowest terms", x, x.drift(0, 4, 2, 2), 0, 12, 25);
        BridgesAreLent y = Check.laid("2;ab5:1", "15", "", 0);
        Check.due("drift: from the only one", y, y.drift(0, 7, 3, 0), 0, 1, 1);
    }

    private static void driftRefused() {
        int[][] wrong = {{2, 5, 1, 0}, {-1, 5, 1, 0}, {0, -1, 1, 0}, {0, 11, 1, 0}, {0, 5, -1, 0}, {0, 5, 13, 0}, {0, 5, 1, 4},
            {0, 5, 1, -1}};
        for (int[] w : wrong) {
            BridgesAreLent x = Check.laid(DOWN, "53;99", "", 3);
            String what = w[0] + " " + w[1] + " " + w[2] + " " + w[3];
            Check.refused("drift " + what, x, () -> x.drift(w[0], w[1], w[2], w[3]), NONE);
            if (w[3] == 0) {
                Check.refused("seek " + what, x, () -> x.seek(w[0], w[1], w[2]), NONE);
            }
        }
        BridgesAreLent y = Check.laid(DOWN, "53;99", "", 3);
        Check.refused("drift: in the shed", y, () -> y.drift(1, 5, 1, 0), -2);
        Check.refused("seek: in the shed", y, () -> y.seek(1, 5, 1), -2);
        y.tow(0, 0);
        Check.refused("drift: towed", y, () -> y.drift(0, 5, 1, 0), -2);
        Check.refused("seek: towed", y, () -> y.seek(0, 5, 1), -2);
    }

    private static void seek() {
        BridgesAreLent x = Check.laid(DOWN, "53;99", "", 3);
        Check.due("seek: no nights", x, x.seek(0, 5, 0), 3, 1, 1);
        Check.due("seek: equal, the first down the river", x, x.seek(0, 5, 1), 3, 1, 2);
        Check.due("seek: likelier to go", x, x.seek(0, 6, 1), 0, 3, 5);
        Check.due("seek: like places", x, x.seek(0, 10, 2), 2, 1, 1);
        Check.due("seek: the last", x, x.seek(0, 5, 6), 1, 21, 32);
        Check.due("seek: two nights", x, x.seek(0, 5, 2), 0, 1, 2);
        Check.due("seek: three nights, equal ones", x, x.seek(0, 5, 3), 0, 3, 8);
    }

    private static void found() {
        BridgesAreLent x = Check.object(Check.RIVER, Check.BRIDGES, "");
        int[][] wrong = {{-1, 0, 0}, {4, 0, 0}, {0, -1, 0}, {0, 19, 0}, {1, -1, 1}, {1, 19, 1}, {2, -1, 0}, {2, 7, 0},
            {3, -1, 0}, {3, 2, 0}, {0, 5, -1}, {0, 5, 2}};
        for (int[] f : wrong) {
            BridgesAreLent y = Check.object(Check.RIVER, Check.BRIDGES, "");
            Check.refused("found " + f[0] + " " + f[1] + " " + f[2], y, () -> y.found(f[0], f[1], f[2]), NONE);
        }
        int[][] right = {{0, 0, 0}, {0, 18, 1}, {1, 0, 1}, {1, 18, 0}, {2, 0, 0}, {2, 6, 1}, {3, 0, 1}, {3, 1, 0}};
        for (int i = 0; i < right.length; i++) {
            Check.due("found " + i, x.found(right[i][0], right[i][1], right[i][2]), i + 1);
        }
        for (int i = 9; i <= 12; i++) {
            Check.due("found " + i, x.found(0, 1, 1), i);
        }
        Check.refused("found: a thirteenth", x, () -> x.found(0, 1, 1), NONE);
        Check.due("found: count", x.count(9), 12);
        Check.due("forget", x.forget(), 12);
        Check.due("forget: count", x.count(9), 0);
        Check.due("forget: nothing", x.forget(), 0);
        Check.due("forget: all fit", x.stolen(), 7);
    }

    private static void stolen() {
        BridgesAreLent x = Check.object(Check.RIVER, "53;49;36;25;99", "");
        Check.due("stolen: all", x, x.stolen(), 31, 5);
        x.found(0, 4, 1);
        Check.due("stolen: length 4 or more", x, x.stolen(), 19, 3);
        x.found(1, 9, 0);
        Check.due("stolen: sound below 9", x, x.stolen(), 1, 1);
        x.found(3, 1, 1);
        Check.due("stolen: none", x, x.stolen(), 0, 0);
        x.forget();
        x.found(1, 6, 1);
        Check.due("stolen: sound 6 or more", x, x.stolen(), 22, 3);
        x.forget();
        x.found(0, 4, 0);
        Check.due("stolen: length below 4", x, x.stolen(), 12, 2);
        x.forget();
        x.found(2, 4, 1);
        Check.due("stolen: 18 leaves 4", x, x.stolen(), 16, 1);
        x.forget();
        x.found(2, 0, 1);
        Check.due("stolen: 7 leaves 0", x, x.stolen(), 8, 1);
        x.forget();
        x.found(2, 0, 0);
        Check.due("stolen: not 0", x, x.stolen(), 23, 4);
        x.forget();
        x.found(3, 0, 1);
        Check.due("stolen: even", x, x.stolen(), 21, 3);
        x.found(3, 1, 0);
        Check.due("stolen: not odd", x, x.stolen(), 21, 3);
        x.found(3, 0, 0);
        Check.due("stolen: not even", x, x.stolen(), 0, 0);
        x.forget();
        x.found(1, 1, 1);
        x.sheet(2, 1, 1, 0);
        Check.due("stolen: sound as it is", x, x.stolen(), 1, 1);
    }

    private static void ask() {
        BridgesAreLent x = Check.object(Check.RIVER, "11;11;11;11", "");
        Check.due("ask: by number", x, x.ask(), 57, 2);
        BridgesAreLent y = Check.object(Check.RIVER, "15;36;57;78", "");
        Check.due("ask: by length", y, y.ask(), 4, 2);
        y.found(0, 4, 1);
        Check.due("ask: of two", y, y.ask(), 6, 1);
        y.found(0, 6, 1);
        Check.due("ask: of one", y, y.ask(), 0, 1);
        y.found(0, 6, 0);
        y.stolen();
        Check.refused("ask: none fits", y, y::ask, -2);
        BridgesAreLent z = Check.object(Check.RIVER, "52;58", "");
        Check.due("ask: by sound", z, z.ask(), 22, 1);
        BridgesAreLent w = Check.object(Check.RIVER, "52;59;52;59;52;52", "");
        Check.due("ask: by number, of six", w, w.ask(), 57, 3);
        BridgesAreLent v = Check.object(Check.RIVER, "18;53;11", "");
        v.found(3, 0, 1);
        Check.due("ask: of those that fit", v, v.ask(), 21, 1);
    }

    private static void share() {
        BridgesAreLent x = new BridgesAreLent();
        Check.due("share: the first always, one hour turns", x, x.share(0xFFFFFF, 0, 5, 1), 3, 2, 0);
        Check.due("share: the second always", x, x.share(0, 0xFFFFFF, 5, 1), 2, 0, 3);
        Check.due("share: turns of two", x, x.share(0b110011, 0b001100, 6, 2), 6, 0, 0);
        Check.due("share: turns of two, the other way", x, x.share(0b001100, 0b110011, 6, 2), 0, 2, 4);
        Check.due("share: hour 24 is hour 0", x, x.share(1, 2, 48, 24), 2, 1, 1);
        Check.due("share: hour 24 alone", x, x.share(1, 0, 25, 48), 2, 0, 0);
        Check.due("share: turns of 48", x, x.share(1, 2, 48, 48), 2, 0, 2);
        Check.due("share: one hour", x, x.share(1, 1, 1, 1), 1, 0, 1);
        Check.due("share: bit 23", x, x.share(1 << 23, 0, 24, 48), 1, 0, 0);
        Check.refused("share: n 0", x, () -> x.share(1, 2, 0, 1), NONE);
        Check.refused("share: n 49", x, () -> x.share(1, 2, 49, 1), NONE);
        Check.refused("share: k 0", x, () -> x.share(1, 2, 1, 0), NONE);
        Check.refused("share: k 49", x, () -> x.share(1, 2, 1, 49), NONE);
        Check.refused("share: bit 24 of one", x, () -> x.share(1 << 24, 2, 1, 1), NONE);
        Check.refused("share: bit 24 of the other", x, () -> x.share(1, 1 << 24, 1, 1), NONE);
        Check.refused("share: bit 31 of one", x, () -> x.share(Integer.MIN_VALUE, 2, 1, 1), NONE);
        Check.refused("share: bit 31 of the other", x, () -> x.share(1, -1, 1, 1), NONE);
    }

    private static void turn() {
        BridgesAreLent x = new BridgesAreLent();
        Check.due("turn: 2", x, x.turn(0b110011, 0b001100, 6), 2, 6);
        Check.due("turn: equal ones", x, x.turn(0, 0, 48), 1, 0);
        Check.due("turn: 24", x, x.turn(0xFFFFFF, 0, 24), 24, 24);
        Check.due("turn: never 25", x, x.turn(0xFFFFFF, 0, 25), 24, 24);
        Check.due("turn: one hour", x, x.turn(1, 0, 1), 1, 1);
        Check.due("turn: 48 hours", x, x.turn(0xFFFFFF, 0xFFFFFF, 48), 1, 48);
        Check.due("turn: the least that is enough", x, x.turn(0xFFFFFF, 0, 5), 5, 5);
        Check.refused("turn: n 0", x, () -> x.turn(1, 2, 0), NONE);
        Check.refused("turn: n 49", x, () -> x.turn(1, 2, 49), NONE);
        Check.refused("turn: bit 24 of one", x, () -> x.turn(1 << 24, 2, 5), NONE);
        Check.refused("turn: bit 24 of the other", x, () -> x.turn(1, 1 << 24, 5), NONE);
        Check.refused("turn: bit 31", x, () -> x.turn(-1, 0, 5), NONE);
    }

    private static void rests() {
        BridgesAreLent x = new BridgesAreLent();
        Check.due("rests: 0", x, x.rests(0), 4, 1, 1);
        Check.due("rests: 1", x, x.rests(1), 7, 1, 1);
        Check.refused("rests: -1", x, () -> x.rests(-1), NONE);
        Check.refused("rests: 10", x, () -> x.rests(10), NONE);
        for (int c = 0; c <= 9; c++) {
            long[] want = restsByTable(c);
            Check.due("rests: " + c, x, x.rests(c), want[0], want[1], want[2]);
        }
    }

    /** The table of all gains, and in it who gains most for each price of the other. */
    private static long[] restsByTable(int c) {
        int[][] gain = new int[10][10];
        int[] most = new int[10];
        java.util.Arrays.fill(most, Integer.MIN_VALUE);
        for (int p = 1; p <= 9; p++) {
            for (int q = 1; q <= 9; q++) {
                gain[p][q] = p < q ? p - c : p > q ? 0 : (int) ((p - c) / 2.0);
                most[q] = Math.max(most[q], gain[p][q]);
            }
        }
        long[] found = {0, 0, 0};
        for (int p = 9; p >= 1; p--) {
            for (int q = 9; q >= 1; q--) {
                if (gain[p][q] == most[q] && gain[q][p] == most[p]) {
                    found = new long[] {found[0] + 1, p, q};
                }
            }
        }
        return found;
    }

    private static void home() {
        BridgesAreLent x = Check.laid(Check.RIVER, "53;49;36", "", 1, 0);
        Check.due("home: none is lent", x, x.home(), 0, 1);
        x.lend(2, 5);
        Check.due("home: one in the shed", x, x.home(), 0, 1);
        x.lend(0, 7);
        Check.due("home: just in time", x, x.home(), 0, 7);
        x.lend(0, 6);
        Check.due("home: an hour too late", x, x.home(), 1, 1);
        x.lend(1, 5);
        Check.due("home: another in time", x, x.home(), 1, 5);
        x.tow(1, NONE);
        Check.due("home: it goes on", x, x.home(), 1, 5);
        x.hours(1);
        Check.due("home: it goes on, an hour later", x, x.home(), 1, 5);
        x.lend(1, 4);
        Check.due("home: it goes on, too late", x, x.home(), 3, 2);
        x.lend(1, 99);
        x.hours(3);
        x.tow(1, 2);
        Check.due("home: towed to a crossing", x, x.home(), 3, 5);
        x.lend(0, 999);
        Check.due("home: the last hour", x, x.home(), 2, 11);
        x.lend(1, NONE);
        x.lend(0, NONE);
        Check.due("home: none is lent", x, x.home(), 0, 5);
        Check.due("home: nothing begins", x.crossing(1, 4), 0);
    }

    private static void years() {
        // seed 1 draws of three: 2 0 0 0 0 1 2 2, of two: 0 0 1 1 1 1 0 1; seed -1 draws of three: 1 2
        BridgesAreLent x = Check.laid(DOWN, "99;59;49", "", 3, 0, 1);
        Check.due("years: from the last it stays", x, x.years(1, 1), 3, 0, 3);
        Check.due("years: the next is not free", x, x.years(1, 2), 3, 1, 3);
        Check.due("years: in the shed it stays", x, x.years(1, 5), 3, 1, 3);
        Check.due("years: the next is too wide", x, x.years(1, 6), 1, 2, 1);
        Check.due("years: from the last it stays again", x, x.years(1, 8), 1, 2, 1);
        Check.due("years: without sign", x, x.years(-1, 2), 3, 1, 3);
        Check.refused("years: n 0", x, () -> x.years(1, 0), NONE);
        Check.refused("years: n 61", x, () -> x.years(1, 61), NONE);
        Check.due("years: nothing changes", x.bridge(0, 2) * 100 + x.bridge(1, 2) * 10 + x.bridge(2, 2), 301);
        Check.due("years: 60", x.years(1, 60) >= 0, true);
        BridgesAreLent y = Check.laid(DOWN, "99;59", "", 3);
        Check.due("years: down to the last", y, y.years(1, 7), 1, 0, 1);
        y.tow(1, 0);
        Check.due("years: one is towed there", y, y.years(1, 1), 0, 1, 0);
        BridgesAreLent z = Check.object(DOWN, "", "");
        Check.refused("years: no bridges", z, () -> z.years(1, 1), NONE);
    }

    private static void yearsOfOne() {
        BridgesAreLent x = Check.laid("3;ab10:1;bc20:1;ac30:2", "15", "", 0);
        Check.due("years: to the next", x, x.years(5, 1), 1, 0, 1);
        Check.due("years: too short for the last", x, x.years(5, 2), 0, 1, 0);
        Check.due("years: in the shed it stays", x, x.years(-5, 60), 0, 1, 0);
        Check.due("years: nothing changes", x.crossing(0, 4), 0);
        BridgesAreLent y = Check.laid("3;ab10:1;bc20:1", "15", "", 1);
        Check.due("years: from the last it stays", y, y.years(9, 60), 1, 0, 1);
    }
}
