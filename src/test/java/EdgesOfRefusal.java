import java.util.NoSuchElementException;

/** Terms 2, refused calls: all that can be seen of an object, now and later, is as if they had never been made. */
final class EdgesOfRefusal {
    private static final int NONE = BridgesAreLent.NONE;
    private static final int THROWS = -1000;
    private static final String TEXT = "2;ab5:1";

    private EdgesOfRefusal() {
    }

    static void all() {
        Doc.says(Doc.TERMS, "Refused calls answer NONE, or false, and change nothing but THE TEXT, which a call that reads it empties.");
        textCalls();
        readingCalls();
        sheetCalls();
        hourCalls();
        wayCalls();
        layoutCalls();
        chanceCalls();
        keptCalls();
        seenCalls();
        nothingToUndo();
        nothingFits();
    }

    /** Something of everything: BRIDGES laid, towed, lent, in THE SHED; deeds, finds, a RULE, a ROW, things kept. */
    private static BridgesAreLent full(String text) {
        BridgesAreLent x = Check.laid(Check.RIVER, "53;49;36;25", "a4;c2", 1, 0);
        Check.rule(x, "d+7");
        x.keep(1);
        x.found(0, 3, 1);
        x.found(1, 9, 0);
        x.lend(1, 3);
        x.tow(2, 2);
        x.hours(3);
        x.keep(2);
        Check.day(x, "h1;l39;l046;ca0");
        x.route(1, 1);
        return Check.write(x, text);
    }

    /** What an object tells of itself, and then by deeds undone, by what was kept, by a river anew. */
    private static String probe(BridgesAreLent x) {
        StringBuilder all = new StringBuilder(Check.sight(x)).append("| signs ").append(x.count(12));
        for (int b = 0; b < 4; b++) {
            for (int c = NONE; c < 4; c++) {
                all.append(' ').append(x.takes(b, c));
            }
        }
        all.append("| stolen ").append(x.stolen()).append("| ask ").append(x.ask());
        for (int left = x.undo(); left >= 0; left = x.undo()) {
            all.append("| undone ").append(left).append(Check.things(x));
        }
        for (int i = 0; i <= 2; i++) {
            all.append("| kept ").append(i).append(x.again(i)).append(Check.things(x));
        }
        return all.append("| river ").append(x.river()).append(Check.sight(x)).toString();
    }

    private static long answer(BridgesAreLent x, Edges.Calling call) {
        try {
            return call.answer(x);
        } catch (NoSuchElementException e) {
            return THROWS;
        }
    }

    private static void refused(String what, long want, Edges.Calling call) {
        BridgesAreLent x = full(TEXT);
        Check.due(what, answer(x, call), want);
        Check.due(what + " changes something", probe(x), probe(full(TEXT)));
    }

    private static void reads(String what, String text, long want, Edges.Calling call) {
        BridgesAreLent x = full(text);
        Check.due(what, answer(x, call), want);
        Check.due(what + " changes something but the text", probe(x), probe(full("")));
    }

    private static void textCalls() {
        String longest = TEXT + Check.times("x", 73);
        BridgesAreLent x = full(longest);
        Check.due("sign", x.sign(0x32323232), NONE);
        Check.due("sign changes something", probe(x), probe(full(longest)));
        refused("end of 8", 0, y -> y.end(8) ? 1 : 0);
        refused("end of -1", 0, y -> y.end(-1) ? 1 : 0);
    }

    private static void readingCalls() {
        reads("river", "2;ab5:1;", -9, BridgesAreLent::river);
        reads("river, empty", "", -1, BridgesAreLent::river);
        reads("bridges", "12;05", -4, BridgesAreLent::bridges);
        reads("bridges, no room", "12;34;56", -7, BridgesAreLent::bridges);
        reads("people", "b1;e1", -4, BridgesAreLent::people);
        reads("people, no room", "a1;a1;a1;a1;a1", -13, BridgesAreLent::people);
        reads("rule", "9+", -3, BridgesAreLent::rule);
        reads("day", "h1;t1-;x", -8, BridgesAreLent::day);
        reads("errands", "ab,aa", -5, BridgesAreLent::errands);
        reads("errands, empty", "", -1, BridgesAreLent::errands);
    }

    private static void sheetCalls() {
        refused("sheet of kind 4", NONE, x -> x.sheet(4, 2, 1, 1));
        refused("sheet of kind -1", NONE, x -> x.sheet(-1, 2, 1, 1));
        refused("sheet of 7", NONE, x -> x.sheet(0, 7, 1, 1));
        refused("a missing sheet of 7", NONE, x -> x.sheet(3, 7, 1, 1));
        refused("sheet of -1", -2, x -> x.sheet(0, -1, 1, 1));
    }

    private static void hourCalls() {
        refused("takes, none such", NONE, x -> x.takes(4, 0));
        refused("takes, towed", -2, x -> x.takes(2, 0));
        refused("tow, no such bridge", NONE, x -> x.tow(4, NONE));
        refused("tow, no such crossing", NONE, x -> x.tow(0, 4));
        refused("tow, towed", -2, x -> x.tow(2, NONE));
        refused("tow, in the shed", -2, x -> x.tow(3, NONE));
        refused("tow, too short", -3, x -> x.tow(3, 3));
        refused("tow, another is towed there", -4, x -> x.tow(3, 2));
        refused("lend, another hour", -2, x -> x.lend(0, 5));
        refused("lend, no such bridge", -3, x -> x.lend(4, 50));
        refused("cross, none such", NONE, x -> x.cross(2, 0));
        refused("cross, at neither bank", -2, x -> x.cross(1, 0));
        refused("cross, not open", -3, x -> x.cross(1, 2));
        refused("hours of -1", NONE, x -> x.hours(-1));
        refused("hours of 100", NONE, x -> x.hours(100));
    }

    private static void wayCalls() {
        refused("route, none such", NONE, x -> x.route(2, 0));
        refused("route, it can't", -2, x -> x.route(1, 3));
        refused("joined", NONE, x -> x.joined(4));
        refused("soonest, none such", NONE, x -> x.soonest(0, 4));
        refused("moves, none such", NONE, x -> x.moves(0, 4));
        refused("moves, not by 2", -2, x -> x.moves(0, 2));
    }

    private static void layoutCalls() {
        refused("lays", NONE, x -> x.lays(16));
        refused("joins", NONE, x -> x.joins(16));
        refused("flood of -1", NONE, x -> x.flood(-1));
        refused("flood of 10", NONE, x -> x.flood(10));
        refused("worst of -1", NONE, x -> x.worst(-1));
        refused("worst of 4", NONE, x -> x.worst(4));
    }

    private static void chanceCalls() {
        refused("drift, no such bridge", NONE, x -> x.drift(4, 5, 1, 0));
        refused("drift, not at a crossing", -2, x -> x.drift(2, 5, 1, 0));
        refused("seek, no such bridge", NONE, x -> x.seek(4, 5, 1));
        refused("seek, not at a crossing", -2, x -> x.seek(3, 5, 1));
        refused("found", NONE, x -> x.found(4, 0, 0));
        refused("share", NONE, x -> x.share(1, 1, 0, 1));
        refused("turn", NONE, x -> x.turn(1, 1, 0));
        refused("rests", NONE, x -> x.rests(10));
        refused("years", NONE, x -> x.years(1, 61));
    }

    private static void keptCalls() {
        refused("keep of -1", 0, x -> x.keep(-1) ? 1 : 0);
        refused("keep of 3", 0, x -> x.keep(3) ? 1 : 0);
        refused("again of 0, nothing kept", 0, x -> x.again(0) ? 1 : 0);
        refused("again of 3", 0, x -> x.again(3) ? 1 : 0);
    }

    private static void seenCalls() {
        refused("count of 14", -100, x -> x.count(14));
        refused("crossing", THROWS, x -> x.crossing(4, 0));
        refused("bridge", THROWS, x -> x.bridge(4, 0));
        refused("person", THROWS, x -> x.person(2, 0));
        refused("row", THROWS, x -> x.row(3));
    }

    private static void nothingToUndo() {
        BridgesAreLent x = full(TEXT);
        BridgesAreLent y = full(TEXT);
        x.again(2);
        y.again(2);
        Check.due("undo of nothing", x.undo(), NONE);
        Check.due("undo of nothing changes something", probe(x), probe(y));
    }

    private static void nothingFits() {
        BridgesAreLent x = full(TEXT);
        BridgesAreLent y = full(TEXT);
        x.found(0, 18, 1);
        y.found(0, 18, 1);
        Check.due("ask, none fits", x.ask(), -2);
        Check.due("ask, none fits, changes something", probe(x), probe(y));
    }
}
