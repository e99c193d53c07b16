/** Promises 12 to 18: tows, loans, crossings on foot, hours, days, undone. */
public final class HoursTest {
    private static final int NONE = BridgesAreLent.NONE;

    public static void main(String[] args) {
        takes();
        tow();
        lend();
        cross();
        hours();
        loansEnd();
        dayDoes();
        dayRefused();
        dayReads();
        undo();
        undoOfDays();
        undoForgotten();
        Check.finish();
    }

    private static BridgesAreLent usual() {
        return Check.object(Check.RIVER, Check.BRIDGES, Check.PEOPLE);
    }

    private static void takes() {
        BridgesAreLent x = usual();
        Check.refused("takes", x, () -> x.takes(0, 0), 2);
        Check.due("takes: far", x.takes(0, 2), 6);
        Check.due("takes: as long as wide", x.takes(0, 3), 1);
        Check.refused("takes: in the shed", x, () -> x.takes(0, NONE), -2);
        Check.refused("takes: too short", x, () -> x.takes(2, 1), -3);
        Check.refused("takes: too short by 1", x, () -> x.takes(1, 3), -3);
        Check.refused("takes: crossing 4", x, () -> x.takes(0, 4), NONE);
        Check.refused("takes: crossing -2", x, () -> x.takes(0, -2), NONE);
        Check.refused("takes: bridge 3", x, () -> x.takes(3, 0), NONE);
        Check.refused("takes: bridge -1", x, () -> x.takes(-1, NONE), NONE);
        x.tow(0, 1);
        Check.due("takes: towed, to where it goes", x.takes(0, 1), -2);
        Check.due("takes: towed, elsewhere", x.takes(0, 3), -2);
        Check.due("takes: towed, crossing 4", x.takes(0, 4), NONE);
        Check.due("takes: another is towed there", x.takes(1, 1), -4);
        Check.due("takes: another is towed there, too short", x.takes(2, 1), -3);
        x.hours(4);
        Check.due("takes: is there", x.takes(0, 1), -2);
        Check.due("takes: another is there", x.takes(1, 1), -4);
        Check.due("takes: up to the shed", x.takes(0, NONE), 6);
        Check.due("takes: down", x.takes(0, 2), 3);
        Check.due("takes: up", x.takes(0, 3), 5);
    }

    private static void tow() {
        BridgesAreLent x = usual();
        Check.refused("tow: too short", x, () -> x.tow(2, 1), -3);
        Check.refused("tow: in the shed", x, () -> x.tow(2, NONE), -2);
        Check.refused("tow: none such", x, () -> x.tow(3, 0), NONE);
        Check.refused("tow: no such crossing", x, () -> x.tow(0, 4), NONE);
        Check.due("tow", x.tow(0, 1), 4);
        Check.due("tow: not in the shed", x.count(5), 6);
        Check.due("tow: towed", x.count(6), 1);
        Check.refused("tow: towed", x, () -> x.tow(0, 0), -2);
        Check.refused("tow: to the same", x, () -> x.tow(1, 1), -4);
        x.hours(4);
        Check.due("tow: joined", x.count(13), 1);
        Check.due("tow: back", x.tow(0, NONE), 6);
        Check.due("tow: there no more", x.count(13), 0);
        Check.due("tow: free", x.takes(1, 1), 4);
        Check.due("tow: towed to the shed, not in it", x.count(5), 6);
        x.hours(6);
        Check.due("tow: in the shed again", x.count(5), 7);
    }

    private static void lend() {
        BridgesAreLent x = usual();
        x.hours(5);
        Check.refused("lend: now", x, () -> x.lend(0, 5), -2);
        Check.refused("lend: 0", x, () -> x.lend(0, 0), -2);
        Check.refused("lend: -2", x, () -> x.lend(0, -2), -2);
        Check.refused("lend: 1000000", x, () -> x.lend(0, 1000000), -2);
        Check.refused("lend: no bridge", x, () -> x.lend(3, 6), -3);
        Check.refused("lend: no bridge, no hour", x, () -> x.lend(-1, 1), -3);
        Check.due("lend: the next hour", x.lend(0, 6), NONE);
        Check.due("lend: the last hour", x.lend(0, 999999), 6);
        Check.due("lend: lent", x.count(7), 1);
        Check.due("lend: no more", x.lend(0, NONE), 999999);
        Check.due("lend: not lent", x.count(7), 0);
        int before = x.count(10);
        Check.due("lend: it was not", x.lend(0, NONE), NONE);
        Check.due("lend: it was not, but was done", x.count(10), before + 1);
    }

    private static void cross() {
        BridgesAreLent x = Check.laid(Check.RIVER, "53;49;36", "a4;c2;b3;b9", 1, 0);
        BridgesAreLent y = Check.laid(Check.RIVER, "53;49;36", "a4;c2;b3;b9", 1, 0);
        Check.refused("cross: person 4", y, () -> y.cross(4, 0), NONE);
        Check.refused("cross: person -1", y, () -> y.cross(-1, 0), NONE);
        Check.refused("cross: crossing 4", y, () -> y.cross(0, 4), NONE);
        Check.refused("cross: crossing -1", y, () -> y.cross(0, -1), NONE);
        Check.refused("cross: at neither", x, () -> x.cross(0, 1), -2);
        Check.refused("cross: at neither, no bridge", x, () -> x.cross(0, 2), -2);
        Check.refused("cross: no bridge", x, () -> x.cross(0, 3), -3);
        Check.refused("cross: too heavy", x, () -> x.cross(3, 1), -3);
        Check.due("cross", x.cross(1, 1), 1);
        Check.due("cross: bank", x.person(1, 0), 1);
        Check.due("cross: no wear", x.bridge(0, 1), 3);
        Check.due("cross: back", x.cross(1, 1), 2);
        Check.due("cross: just its weight", x.cross(2, 1), 2);
        Check.due("cross: wear", x.bridge(0, 1), 2);
        Check.refused("cross: too heavy now", x, () -> x.cross(2, 1), -3);
        Check.due("cross: just 9", x.cross(3, 0), 0);
        Check.due("cross: wear of 9", x.bridge(1, 1), 8);
        x.tow(1, 2);
        Check.refused("cross: towed away", x, () -> x.cross(0, 0), -3);
        Check.refused("cross: not there yet", x, () -> x.cross(1, 2), -3);
    }

    private static void hours() {
        BridgesAreLent x = usual();
        x.tow(0, 1);
        x.tow(1, 0);
        Check.refused("hours: -1", x, () -> x.hours(-1), NONE);
        Check.refused("hours: 100", x, () -> x.hours(100), NONE);
        Check.due("hours: 0", x, x.hours(0), 0, 0, 0);
        Check.due("hours: 1", x, x.hours(1), 1, 0, 0);
        Check.due("hours: yet", x.bridge(0, 3) * 10 + x.bridge(1, 3), 31);
        Check.due("hours: an hour yet, so it is towed", x.count(6), 3);
        Check.due("hours: one comes", x, x.hours(1), 2, 2, 0);
        x.tow(2, 2);
        Check.due("hours: two come", x, x.hours(99), 101, 5, 0);
        Check.due("hours: none comes", x, x.hours(99), 200, 0, 0);
    }

    private static void loansEnd() {
        BridgesAreLent x = usual();
        x.lend(0, 3);
        x.lend(1, 3);
        x.lend(2, 4);
        x.tow(1, 0);
        Check.due("loans: not yet", x, x.hours(2), 2, 2, 0);
        Check.due("loans: lent", x.count(7), 7);
        Check.due("loans: one is not in the shed", x, x.hours(1), 3, 0, 2);
        Check.due("loans: lent yet", x.count(7), 4);
        Check.due("loans: broken", x.count(8), 1);
        x.tow(1, NONE);
        x.lend(1, 7);
        Check.due("loans: it comes just then", x, x.hours(4), 7, 2, 0);
        Check.due("loans: not broken", x.count(8), 1);
        x.tow(1, 0);
        x.hours(2);
        x.tow(1, NONE);
        x.lend(1, x.count(4) + 3);
        Check.due("loans: an hour too late", x, x.hours(4), 13, 2, 2);
        x.tow(1, 0);
        x.lend(1, 14);
        Check.due("loans: towed away", x, x.hours(9), 22, 2, 2);
        Check.due("loans: broken in all", x.count(8), 3);
    }

    private static void dayDoes() {
        BridgesAreLent x = usual();
        Check.due("day: nothing", x, Check.day(x, ""), 0, 0, 0);
        Check.due("day: nothing to be undone", x.count(10), 0);
        Check.due("day", x, Check.day(x, "t01;l05;h4;cb1;h9"), 5, 0, 1);
        Check.due("day: now", x.count(4), 13);
        Check.due("day: tow", x.crossing(1, 4), 0);
        Check.due("day: cross", x.person(1, 0), 1);
        Check.due("day: broken", x.count(8), 1);
        Check.due("day: to the shed, hours of two digits", x, Check.day(x, "t0-;h09"), 2, 0, 0);
        Check.due("day: in the shed", x.count(5), 7);
        Check.due("day: to the first bank and back", x, Check.day(x, "t10;h2;ca0;ca0;h1"), 5, 0, 0);
        Check.due("day: at the first bank", x.person(0, 0), 0);
        Check.due("day: home again", x, Check.day(x, "t1-;h4"), 2, 0, 0);
        Check.due("day: lent anew", x, Check.day(x, "l1999;l11"), 2, 0, 0);
        Check.due("day: lent from now", x.bridge(1, 4), x.count(4) + 1);
        Check.due("day: 60 signs", x, Check.day(x, Check.times("l1123;", 8) + "h01;h2;h01;h"), -61, 0, 0);
        Check.due("day: the 60th sign", x, Check.day(x, Check.times("l1123;", 8) + "h01;h02;h003"), -60, 0, 0);
        Check.due("day: 60 signs all done", x, Check.day(x, Check.times("l1123;", 9) + "h01;h0"), 11, 0, 0);
    }

    private static void dayRefused() {
        BridgesAreLent x = usual();
        Check.due("day: first refused", x, Check.day(x, "t21;h1"), 0, 1, 0);
        Check.due("day: nothing was done", x.count(4), 0);
        Check.due("day: nothing to be undone", x.count(10), 0);
        Check.due("day: second refused", x, Check.day(x, "h2;t21;h1"), 1, 1, 0);
        Check.due("day: one was done", x.count(4), 2);
        Check.due("day: lend till now", x, Check.day(x, "h1;l00;h1"), 1, 1, 0);
        Check.due("day: lend 000", x, Check.day(x, "l0000"), 0, 1, 0);
        Check.due("day: lend none such", x, Check.day(x, "l35"), 0, 1, 0);
        Check.due("day: tow none such", x, Check.day(x, "t90;h1"), 0, 1, 0);
        Check.due("day: tow nowhere such", x, Check.day(x, "t09;h1"), 0, 1, 0);
        Check.due("day: cross none such", x, Check.day(x, "cc0;h1"), 0, 1, 0);
        Check.due("day: cross not open", x, Check.day(x, "ca0;h1"), 0, 1, 0);
        Check.due("day: broken, then refused", x, Check.day(x, "t01;l01;h1;t01"), 3, 1, 1);
        Check.due("day: now", x.count(4), 4);
        Check.due("day: h0", x, Check.day(x, "h0;h00"), 2, 0, 0);
    }

    private static void dayAt(String text, int place) {
        BridgesAreLent x = usual();
        x.hours(1);
        Check.write(x, text);
        Check.refused("day " + text, x, x::day, -1 - place);
        Check.due("day " + text + ": the text", x.count(12), 0);
    }

    private static void dayReads() {
        dayAt(";", 0);
        dayAt("x", 0);
        dayAt("t", 1);
        dayAt("t-", 1);
        dayAt("t0", 2);
        dayAt("t0a", 2);
        dayAt("t000", 3);
        dayAt("t0-1", 3);
        dayAt("l", 1);
        dayAt("l0", 2);
        dayAt("l0-", 2);
        dayAt("l01234", 5);
        dayAt("c", 1);
        dayAt("cg", 1);
        dayAt("c0", 1);
        dayAt("ca", 2);
        dayAt("ca-", 2);
        dayAt("ca01", 3);
        dayAt("h", 1);
        dayAt("h-", 1);
        dayAt("h123", 3);
        dayAt("h1,", 2);
        dayAt("h1;", 3);
        dayAt("h1;h", 4);
        dayAt("h1; h1", 3);
        dayAt(Check.times("h1;", 20), 60);
        dayAt(Check.times("h1;", 20) + "h1", 60);
        dayAt(Check.times("h1;", 19) + "h11;", 60);
        dayAt(Check.times("h1;", 19) + "h1x;", 59);
        BridgesAreLent x = usual();
        Check.due("day: 20 acts", x, Check.day(x, Check.times("h1;", 19) + "h1"), 20, 0, 0);
        Check.due("day: 60 signs", x, Check.day(x, Check.times("h1;", 19) + "h11"), 20, 0, 0);
        Check.due("day: letters to f", x, Check.day(x, "h1;cf0"), 1, 1, 0);
    }

    private static void undo() {
        BridgesAreLent x = Check.laid(Check.RIVER, Check.BRIDGES, "a4;c2;b3", 1, 0);
        Check.refused("undo: none", x, x::undo, NONE);
        String[] seen = new String[6];
        seen[0] = Check.things(x);
        x.tow(2, 2);
        seen[1] = Check.things(x);
        x.lend(0, 3);
        seen[2] = Check.things(x);
        x.cross(2, 1);
        seen[3] = Check.things(x);
        x.tow(2, 0);
        x.cross(0, 2);
        x.lend(0, 0);
        x.hours(100);
        x.hours(9);
        seen[4] = Check.things(x);
        Check.day(x, "l0-");
        Check.day(x, "t00");
        Check.day(x, "h3;l07;h8");
        for (int left = 4; left >= 0; left--) {
            Check.due("undo: left", x.undo(), left);
            Check.due("undo: as ahead of it, " + left, Check.things(x), seen[left]);
            Check.due("undo: count", x.count(10), left);
        }
        Check.refused("undo: no more", x, x::undo, NONE);
    }

    private static void undoOfDays() {
        BridgesAreLent x = usual();
        for (int i = 1; i <= 17; i++) {
            x.hours(1);
            Check.due("undo: kept", x.count(10), Math.min(i, 15));
        }
        x.tow(2, 1);
        Check.due("undo: a refused call does not push", x.count(10), 15);
        for (int left = 14; left >= 0; left--) {
            Check.due("undo: of 15", x.undo(), left);
            Check.due("undo: of 15: now", x.count(4), left + 2);
        }
        Check.due("undo: of 15: no more", x.undo(), NONE);
        x.hours(1);
        x.undo();
        Check.day(x, "h1;h2;t00;t00");
        Check.due("undo: a day is one", x.count(10), 1);
        Check.due("undo: a day", x.undo(), 0);
        Check.due("undo: a day: now", x.count(4), 2);
        Check.due("undo: a day: tow", x.count(6), 0);
        for (int i = 0; i < 40; i++) {
            x.hours(2);
        }
        for (int i = 0; i < 7; i++) {
            x.undo();
        }
        Check.due("undo: round the ring", x.count(4), 68);
        x.hours(5);
        Check.due("undo: round the ring: left", x.undo(), 8);
        Check.due("undo: round the ring: back", x.count(4), 68);
    }

    private static void undoForgotten() {
        BridgesAreLent x = usual();
        x.hours(1);
        x.keep(0);
        Check.bridges(x, "");
        Check.people(x, "");
        Check.bridges(x, "x");
        Check.people(x, "x");
        Check.river(x, "x");
        x.again(1);
        Check.rule(x, "5");
        Check.due("undo: not forgotten", x.count(10), 1);
        x.again(0);
        Check.due("undo: forgotten by again", x.count(10), 0);
        x.hours(1);
        Check.bridges(x, "11");
        Check.due("undo: forgotten by bridges", x.count(10), 0);
        x.hours(1);
        Check.people(x, "a1");
        Check.due("undo: forgotten by people", x.count(10), 0);
        x.hours(1);
        Check.river(x, "2");
        Check.due("undo: forgotten by river", x.count(10), 0);
    }
}
