/** Promises 17 and 18: each bound that they name. */
final class EdgesOfDays {
    private static final int NONE = BridgesAreLent.NONE;

    private EdgesOfDays() {
    }

    static void all() {
        emptyDay();
        actsBetween();
        towAct();
        lendAct();
        crossAct();
        hoursAct();
        tillRefused();
        dayRow();
        dayCantStand();
        dayEndsTooEarly();
        dayTooLong();
        nothingDone();
        undoLatest();
        fifteen();
        suchAsWereDone();
        dayAsOne();
        asAhead();
        howManyLeft();
        undoRefused();
        forgotten();
        notForgotten();
    }

    private static BridgesAreLent usual() {
        return Check.object(Check.RIVER, Check.BRIDGES, Check.PEOPLE);
    }

    private static void done(BridgesAreLent x, String day, int acts, int refused, int broken) {
        Check.write(x, day);
        Check.due(day, x, x.day(), acts, refused, broken);
        Check.due(day + ": THE TEXT is empty", x.count(12), 0);
    }

    private static void at(String day, int place) {
        Edges.at(usual(), BridgesAreLent::day, day, place);
    }

    private static void emptyDay() {
        Doc.says(17, "THE TEXT tells A DAY (an empty one: nothing),");
        BridgesAreLent x = usual();
        String before = Check.things(x);
        done(x, "", 0, 0, 0);
        Check.due("nothing changes", Check.things(x), before);
        Check.due("nothing can be undone", x.count(10), 0);
        done(new BridgesAreLent(), "", 0, 0, 0);
    }

    private static void actsBetween() {
        Doc.says(17, "ACTS with ; between:");
        done(usual(), "h1", 1, 0, 0);
        done(usual(), "h1;h1", 2, 0, 0);
        done(usual(), Check.times("h1;", 19) + "h1", 20, 0, 0);
        at(";", 0);
        at(";h1", 0);
        at("h1;;h1", 3);
        at("h1,h1", 2);
        at("h1h1", 2);
        at("h1;", 3);
    }

    private static void towAct() {
        Doc.says(17, "t, a digit (BRIDGE), a digit (CROSSING) or -: tow();");
        BridgesAreLent x = usual();
        done(x, "t02", 1, 0, 0);
        Check.due("bridge 0 to crossing 2", x.bridge(0, 2), 2);
        x.hours(x.bridge(0, 3));
        done(x, "t0-", 1, 0, 0);
        Check.due("to the shed", x.bridge(0, 2), NONE);
        Check.due("towed", x.bridge(0, 3), 8);
        for (String none : new String[] {"t30", "t90", "t24", "t29", "t1-", "t21", "t0-", "t02"}) {
            done(x, none, 0, 1, 0);
        }
        at("t", 1);
        at("t-0", 1);
        at("ta0", 1);
        at("t0", 2);
        at("t0a", 2);
        at("t0--", 3);
        at("t000", 3);
    }

    private static void lendAct() {
        Doc.says(17, "l, a digit, a number (1 to 3 digits): lend() till so many HOURS from NOW;");
        BridgesAreLent x = usual();
        x.hours(99);
        done(x, "l01", 1, 0, 0);
        Check.due("an hour from now", x.bridge(0, 4), 100);
        done(x, "l1999", 1, 0, 0);
        Check.due("999 hours from now", x.bridge(1, 4), 1098);
        done(x, "l2012", 1, 0, 0);
        Check.due("012", x.bridge(2, 4), 111);
        done(x, "l210", 1, 0, 0);
        Check.due("10", x.bridge(2, 4), 109);
        for (String none : new String[] {"l00", "l000", "l0000", "l31", "l9999"}) {
            done(x, none, 0, 1, 0);
        }
        done(x, "h1;l11", 2, 0, 0);
        Check.due("from NOW as it is then", x.bridge(1, 4), 101);
        at("l", 1);
        at("la", 1);
        at("l0", 2);
        at("l0-", 2);
        at("l0;", 2);
        at("l01234", 5);
    }

    private static void crossAct() {
        Doc.says(17, "c, a letter a .. f (PEOPLE), a digit: cross();");
        BridgesAreLent x = Check.laid("2;ab1:1", "19", "a1;a1;a1;a1;a1;a1", 0);
        done(x, "ca0;cb0;cc0;cd0;ce0;cf0", 6, 0, 0);
        for (int p = 0; p < 6; p++) {
            Check.due("person " + p, x.person(p, 0), 1);
        }
        done(x, "ca0;cb0", 2, 0, 0);
        Check.due("back at bank 0", x.person(0, 0) + x.person(1, 0), 0);
        done(x, "ca1", 0, 1, 0);
        done(x, "ca9", 0, 1, 0);
        done(usual(), "cc0", 0, 1, 0);
        done(usual(), "cf0", 0, 1, 0);
        at("c", 1);
        at("cg0", 1);
        at("c`0", 1);
        at("cA0", 1);
        at("c00", 1);
        at("ca", 2);
        at("ca-", 2);
        at("ca00", 3);
    }

    private static void hoursAct() {
        Doc.says(17, "h and a number (1 or 2 digits): hours():");
        BridgesAreLent x = usual();
        done(x, "h0", 1, 0, 0);
        done(x, "h00", 1, 0, 0);
        Check.due("no hours", x.count(4), 0);
        done(x, "h9", 1, 0, 0);
        done(x, "h09", 1, 0, 0);
        Check.due("9 and 9", x.count(4), 18);
        done(x, "h99", 1, 0, 0);
        Check.due("99 more", x.count(4), 117);
        at("h", 1);
        at("h-1", 1);
        at("ha", 1);
        at("h100", 3);
        at("h000", 3);
    }

    private static void tillRefused() {
        Doc.says(17, "they are done one by one, till one is refused (it answers below 0, but lend(), which may answer NONE):"
                + " how many were done;");
        BridgesAreLent x = usual();
        done(x, "h1;t21;h1", 1, 1, 0);
        Check.due("none behind it", x.count(4), 1);
        done(x, "t10;t00;h1", 1, 1, 0);
        done(x, "t10;h1", 0, 1, 0);
        done(x, "l05;l05;h1", 3, 0, 0);
        Check.due("lend() answered NONE, and they went on", x.count(4), 2);
        done(x, "l00;h1", 0, 1, 0);
        done(x, "l31;h1", 0, 1, 0);
        done(x, "ca1;h1", 0, 1, 0);
        done(x, "ca3;h1", 0, 1, 0);
        done(x, "h1;ca9", 1, 1, 0);
        Check.due("now", x.count(4), 3);
        done(new BridgesAreLent(), "h1;l01", 1, 1, 0);
        done(new BridgesAreLent(), "h1;t0-", 1, 1, 0);
        BridgesAreLent y = usual();
        done(y, "t10;h2;ca0;t1-;h3;h1", 6, 0, 0);
        Check.due("each behind the one ahead", y.person(0, 0) * 10 + y.count(4), 16);
    }

    private static void dayRow() {
        Doc.says(17, "the ROW: 1 if one was refused, else 0; how often promises were BROKEN.");
        BridgesAreLent x = Check.laid("2;ab1:1;ab2:1;ab3:1", "19;19;19", "", 0, 1, 2);
        done(x, "l01;l11;l21;h1", 4, 0, 3);
        done(x, "l01;h1;l01;h1;l01;h1", 6, 0, 3);
        done(x, "l01;l12;h1;t31;h9", 3, 1, 1);
        done(x, "h1;l05;h2;h1", 4, 0, 1);
        done(x, "h1", 1, 0, 0);
        Check.due("broken in all", x.count(8), 8);
        done(x, "t31", 0, 1, 0);
        done(x, "", 0, 0, 0);
    }

    private static void dayCantStand() {
        Doc.says(17, "-1 - p: the sign at p can't stand there");
        String day = "t0-;l112;cb1;h12";
        for (int p = 0; p < day.length(); p++) {
            for (char wrong : new char[] {'.', 0, 255, 'x', ' '}) {
                at(day.substring(0, p) + wrong + day.substring(p + 1), p);
            }
        }
        at(day + ".", day.length());
        at("T00", 0);
        at("0", 0);
        String[][] some = {{"", "tlch"}, {"t", Edges.DIGITS}, {"t0", Edges.DIGITS + "-"}, {"t0-", ";"}, {"t00", ";"},
            {"l", Edges.DIGITS}, {"l0", Edges.DIGITS}, {"l01", Edges.DIGITS + ";"}, {"l012", Edges.DIGITS + ";"}, {"l0123", ";"},
            {"c", "abcdef"}, {"ca", Edges.DIGITS}, {"ca0", ";"}, {"h", Edges.DIGITS}, {"h1", Edges.DIGITS + ";"}, {"h12", ";"},
            {"h1;", "tlch"}, {Check.times("h1;", 19) + "h12", ""}};
        for (String[] s : some) {
            Edges.signs(EdgesOfDays::usual, BridgesAreLent::day, s[0], s[1]);
        }
    }

    private static void dayEndsTooEarly() {
        Doc.says(17, "(its end, if it ends too early;");
        String day = "h12;l2123;t0-;cb1";
        String ends = "01100011100010001";
        for (int n = 1; n <= day.length(); n++) {
            String text = day.substring(0, n);
            if (ends.charAt(n - 1) == '0') {
                at(text, n);
            } else {
                Check.due(text, Check.day(usual(), text) >= 0, true);
            }
        }
        at(Check.times("h1;", 20), 60);
        at(Check.times("h1;", 19) + "cb", 59);
        at(Check.times("h1;", 18) + "h12;l1", 60);
    }

    private static void dayTooLong() {
        Doc.says(17, "60, if it has more and the first 60 could go on or end);");
        String ends = Check.times("h1;", 19) + "h12";
        String goesOn = Check.times("h1;", 20);
        Check.due("60 signs", ends.length(), 60);
        done(usual(), ends, 20, 0, 0);
        at(ends + ";", 60);
        at(ends + "1", 60);
        at(ends + "x", 60);
        at(ends + ";h1;h1;h1", 60);
        at(goesOn + "h1", 60);
        at(goesOn + "x", 60);
        at(goesOn + Check.times("h", 20), 60);
        at(Check.times("h1;", 19) + "h1x;", 59);
        at(Check.times("h1;", 19) + ";h1;h1", 57);
        at(Check.times("h1;", 19) + "cb1;", 60);
    }

    private static void nothingDone() {
        Doc.says(17, "nothing is done then.");
        BridgesAreLent x = usual();
        x.worst(0);
        Edges.at(x, BridgesAreLent::day, "h1;t00;l09;x", 11);
        Edges.at(x, BridgesAreLent::day, "h1;", 3);
        Check.due("now", x.count(4), 0);
        Check.due("none towed", x.count(6), 0);
        Check.due("nothing can be undone", x.undo(), NONE);
        Check.row("the row stays", x, 0);
    }

    private static void undoLatest() {
        Doc.says(18, "The latest tow(), lend(), cross(), hours() or day()");
        BridgesAreLent x = Check.laid("2;ab1:1;ab2:1", "15;15", "a5", 0);
        String[] seen = new String[6];
        seen[0] = Check.things(x);
        x.tow(1, 1);
        seen[1] = Check.things(x);
        x.lend(0, 3);
        seen[2] = Check.things(x);
        x.cross(0, 0);
        seen[3] = Check.things(x);
        x.hours(4);
        seen[4] = Check.things(x);
        Check.day(x, "h1;l09");
        for (int left = 4; left >= 0; left--) {
            Check.due("left", x.undo(), left);
            Check.due("as ahead of it", Check.things(x), seen[left]);
        }
        x.cross(0, 0);
        x.sheet(2, 1, 5, 0);
        Check.due("to bank 0", x.cross(0, 0), 0);
        Check.due("that is undone, too", x.undo(), 1);
        Check.due("back at bank 1", x.person(0, 0), 1);
    }

    private static void fifteen() {
        Doc.says(18, "(of 15 that are kept, the latest ones;");
        for (int deeds = 13; deeds <= 33; deeds++) {
            BridgesAreLent x = usual();
            for (int i = 0; i < deeds; i++) {
                x.hours(1);
            }
            int kept = Math.min(deeds, 15);
            Check.due(deeds + " deeds: can be undone", x.count(10), kept);
            for (int left = kept - 1; left >= 0; left--) {
                Check.due(deeds + " deeds: left", x.undo(), left);
                Check.due(deeds + " deeds: now", x.count(4), deeds - kept + left);
            }
            Check.due(deeds + " deeds: none", x.undo(), NONE);
            Check.due(deeds + " deeds: now", x.count(4), deeds - kept);
        }
    }

    private static void suchAsWereDone() {
        Doc.says(18, "such as were done;");
        BridgesAreLent x = Check.laid(Check.RIVER, Check.BRIDGES, "a4;c2", 1, 0);
        x.tow(0, 1);
        x.tow(2, 1);
        x.tow(2, 0);
        x.tow(9, 0);
        x.lend(0, 1);
        x.lend(9, 5);
        x.cross(0, 1);
        x.cross(0, 3);
        x.cross(9, 0);
        x.hours(100);
        x.hours(-1);
        Check.day(x, "x");
        Check.due("none of them was", x.count(10), 0);
        x.takes(2, 2);
        x.sheet(2, 6, 5, 0);
        x.moves(0, 3);
        x.years(1, 9);
        x.found(0, 1, 1);
        Check.rule(x, "5");
        x.keep(0);
        Check.due("other calls can't be undone", x.count(10), 0);
        x.hours(0);
        Check.due("no hours were done", x.count(10), 1);
        x.lend(0, NONE);
        Check.due("a loan that was none was ended", x.count(10), 2);
        for (int i = 0; i < 20; i++) {
            x.hours(1);
        }
        x.tow(9, 9);
        x.hours(100);
        for (int i = 0; i < 15; i++) {
            x.undo();
        }
        Check.due("refused ones take no room", x.count(4), 6);
    }

    private static void dayAsOne() {
        Doc.says(18, "day() of which one ACT was done, as one) is undone");
        BridgesAreLent x = usual();
        Check.day(x, "");
        Check.day(x, "t21;h1");
        Check.due("none was done", x.count(10), 0);
        Check.day(x, "h1;t21;h1");
        Check.due("one was done, one refused", x.count(10), 1);
        Check.day(x, "h1;t00;l09;h1");
        Check.due("four were done", x.count(10), 2);
        Check.due("four are undone", x.undo(), 1);
        Check.due("now", x.count(4), 1);
        Check.due("none towed, none lent", x.count(6) + x.count(7), 0);
        Check.due("one is undone", x.undo(), 0);
        Check.due("now", x.count(4), 0);
    }

    private static void asAhead() {
        Doc.says(18, "(where BRIDGES and PEOPLE are, SOUND, LOANS, BROKEN ones, NOW are as ahead of it):");
        BridgesAreLent x = Check.laid("2;ab1:1;ab2:1", "15;15", "a5;a1", 0);
        x.lend(0, 5);
        x.cross(0, 0);
        Check.due("sound wore", x.bridge(0, 1), 4);
        x.undo();
        Check.due("sound", x.bridge(0, 1), 5);
        Check.due("where one is", x.person(0, 0), 0);
        x.tow(1, 1);
        x.hours(9);
        Check.due("broken", x.count(8), 1);
        x.undo();
        Check.due("broken no more", x.count(8), 0);
        Check.due("lent again", x.bridge(0, 4), 5);
        Check.due("now", x.count(4), 1);
        Check.due("towed again", x.bridge(1, 3), 1);
        x.undo();
        Check.due("in the shed again", x.count(5), 2);
        Check.due("free again", x.crossing(1, 5), NONE);
        x.undo();
        Check.due("not lent again", x.count(7), 0);
        // a sheet can't be undone itself, but SOUND is as ahead of what is
        x.hours(1);
        x.sheet(2, 2, 0, 0);
        x.undo();
        Check.due("sound as ahead of it", x.bridge(1, 1), 5);
    }

    private static void howManyLeft() {
        Doc.says(18, "how many are left that can be.");
        BridgesAreLent x = usual();
        x.hours(1);
        x.hours(1);
        Check.due("one left", x.undo(), 1);
        x.tow(0, 0);
        Check.due("two", x.count(10), 2);
        Check.due("one left again", x.undo(), 1);
        Check.due("none left", x.undo(), 0);
        Check.due("none", x.count(10), 0);
    }

    private static void undoRefused() {
        Doc.says(18, "Refused: none.");
        BridgesAreLent x = usual();
        Check.refused("nothing was done", x, x::undo, NONE);
        x.hours(1);
        x.undo();
        Check.refused("all is undone", x, x::undo, NONE);
        Check.refused("once more", x, x::undo, NONE);
        Check.due("a new object", new BridgesAreLent().undo(), NONE);
    }

    private static void forgotten() {
        Doc.says(18, "(river(), bridges(), people() and again() forget them, if they are not refused;");
        BridgesAreLent x = usual();
        x.hours(1);
        Check.bridges(x, "11");
        Check.refused("bridges", x, x::undo, NONE);
        x.hours(1);
        Check.people(x, "a1");
        Check.refused("people", x, x::undo, NONE);
        x.keep(0);
        x.hours(1);
        x.again(0);
        Check.refused("again", x, x::undo, NONE);
        x.hours(1);
        Check.river(x, "2");
        Check.refused("river", x, x::undo, NONE);
        BridgesAreLent y = usual();
        y.hours(1);
        Check.bridges(y, "0");
        Check.people(y, "e1");
        Check.river(y, "2;");
        y.again(0);
        y.again(3);
        Check.due("refused ones do not", y.undo(), 0);
        Check.due("now", y.count(4), 0);
    }

    private static void notForgotten() {
        Doc.says(18, "empty bridges(), people() do not.)");
        BridgesAreLent x = usual();
        x.hours(1);
        Check.due("empty", Check.bridges(x, ""), 0);
        Check.due("one can be", x.count(10), 1);
        Check.due("empty", Check.people(x, ""), 0);
        Check.due("one can be still", x.count(10), 1);
        Check.due("it is undone", x.undo(), 0);
        Check.due("now", x.count(4), 0);
    }
}
