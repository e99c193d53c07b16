/** Promises 19 to 23: who can go where. */
public final class WaysTest {
    private static final int NONE = BridgesAreLent.NONE;

    public static void main(String[] args) {
        route();
        joined();
        soonest();
        moves();
        movesLeastRow();
        needed();
        Check.finish();
    }

    private static void route() {
        // a ring of five banks, with a second crossing between a and b
        String river = "5;ab1:1;bc1:1;cd1:1;de1:1;ea1:1;ba1:1";
        BridgesAreLent x = Check.laid(river, "19;19;15;19;19;13", "a3;a6;d4", 1, 2, 3, 4, 5, 0);
        Check.due("route: the shorter way round", x, x.route(0, 3), 2, 4, 3);
        Check.due("route: the first of like crossings", x, x.route(0, 1), 1, 0);
        Check.due("route: the first that holds", x, x.route(1, 1), 1, 5);
        Check.due("route: the longer way, since one does not hold", x, x.route(1, 3), 3, 5, 1, 2);
        Check.due("route: it is there", x, x.route(2, 3), 0);
        Check.due("route: from d", x, x.route(2, 1), 2, 2, 1);
        x.route(0, 3);
        BridgesAreLent w = Check.laid(river, "19;19", "a3;a6;d4", 1, 2);
        w.joined(0);
        Check.refused("route: bank 5", w, () -> w.route(0, 5), NONE);
        Check.refused("route: bank -1", w, () -> w.route(0, -1), NONE);
        Check.refused("route: person 3", w, () -> w.route(3, 0), NONE);
        Check.refused("route: person -1", w, () -> w.route(-1, 0), NONE);
        x.tow(2, NONE);
        x.tow(1, NONE);
        x.route(0, 1);
        Check.refused("route: it can't", x, () -> x.route(0, 3), -2);
        // of two ways of two crossings each the one whose row is less
        BridgesAreLent y = Check.laid("4;bd1:1;ac1:1;cd1:1;ab1:1", "19;19;19;19", "a1", 0, 1, 2, 3);
        Check.due("route: the least row", y, y.route(0, 3), 2, 1, 2);
        BridgesAreLent z = Check.laid("8;ab1:1;bc1:1;cd1:1;de1:1;ef1:1;fg1:1", "11;11;11;11;11;11", "a1", 0, 1, 2, 3, 4, 5);
        Check.due("route: six crossings, sound does not wear", z, z.route(0, 6), 6, 0, 1, 2, 3, 4, 5);
        Check.due("route: sound does not wear", z.bridge(0, 1), 1);
        Check.due("route: to the bank without a crossing", z.route(0, 7), -2);
    }

    private static void joined() {
        BridgesAreLent x = Check.laid("5;ab1:1;bc1:1;de1:1;ab2:1", "10;10;19;19", "", 0, 1);
        Check.due("joined: a", x, x.joined(0), 7, 3);
        Check.due("joined: c", x, x.joined(2), 7, 3);
        Check.due("joined: d alone", x, x.joined(3), 8, 3);
        x.tow(2, 2);
        Check.due("joined: towed there", x, x.joined(3), 8, 3);
        x.tow(3, 3);
        x.hours(9);
        Check.due("joined: two parts", x, x.joined(4), 24, 4);
        Check.refused("joined: bank 5", x, () -> x.joined(5), NONE);
        Check.refused("joined: bank -1", x, () -> x.joined(-1), NONE);
    }

    private static void soonest() {
        BridgesAreLent x = Check.laid("4;ab10:1;bc20:1;cd30:1", "19;19;14", "a4;a5;d1", 0);
        Check.refused("soonest: it is there", x, () -> x.soonest(0, 0), 0);
        Check.due("soonest: one crossing", x.soonest(0, 1), 1);
        Check.due("soonest: never", x.soonest(0, 2), -2);
        Check.rule(x, "3");
        x.tow(1, 1);
        Check.refused("soonest: waits for a tow", x, () -> x.soonest(0, 2), 4);
        Check.rule(x, "4");
        x.tow(2, 2);
        Check.due("soonest: just in time", x.soonest(0, 3), 5);
        Check.due("soonest: does not hold", x.soonest(1, 3), -2);
        Check.due("soonest: from d", x.soonest(2, 0), 7);
        x.hours(2);
        Check.due("soonest: hours later", x.soonest(0, 3), 3);
        x.hours(50);
        Check.due("soonest: all there", x.soonest(0, 3), 3);
        Check.refused("soonest: bank 4", x, () -> x.soonest(0, 4), NONE);
        Check.refused("soonest: bank -1", x, () -> x.soonest(0, -1), NONE);
        Check.refused("soonest: person 3", x, () -> x.soonest(3, 0), NONE);
        Check.refused("soonest: person -1", x, () -> x.soonest(-1, 0), NONE);
        x.tow(1, NONE);
        Check.due("soonest: towed to the shed", x.soonest(0, 2), -2);
        BridgesAreLent y = Check.object("2;ab10:1", "19", "a1");
        Check.rule(y, "99");
        y.tow(0, 0);
        Check.due("soonest: in 100 hours", y.soonest(0, 1), -2);
        y.hours(1);
        Check.due("soonest: in 99 hours", y.soonest(0, 1), 99);
    }

    private static void moves() {
        BridgesAreLent x = Check.laid(Check.RIVER, "53;49;36", "a4;c2;a3", 1, 0);
        Check.due("moves: none", x, x.moves(0, 1), 0);
        Check.due("moves: one that is needed no more", x, x.moves(1, 3), 1, 0, 2);
        Check.due("moves: one that would be cut off", x, x.moves(2, 3), 1, 0, 3);
        Check.refused("moves: not by 2", x, () -> x.moves(0, 2), -2);
        Check.refused("moves: person 3", x, () -> x.moves(3, 0), NONE);
        Check.refused("moves: person -1", x, () -> x.moves(-1, 0), NONE);
        Check.refused("moves: bank 4", x, () -> x.moves(0, 4), NONE);
        Check.refused("moves: bank -1", x, () -> x.moves(0, -1), NONE);
        BridgesAreLent y = Check.object("3;ab1:1;bc1:1", "15;15;15", "a5");
        Check.due("moves: two", y, y.moves(0, 2), 2, 0, 0, 1, 1);
        y.tow(0, 0);
        Check.due("moves: a crossing to which one is towed", y, y.moves(0, 2), -2, 0, 0, 1, 1);
        y.hours(9);
        Check.due("moves: it came", y, y.moves(0, 2), 1, 1, 1);
        y.tow(0, NONE);
        Check.due("moves: one that is towed", y, y.moves(0, 2), 2, 1, 0, 2, 1);
        y.sheet(2, 2, 5, 0);
        Check.due("moves: one that does not hold", y, y.moves(0, 2), -2, 1, 0, 2, 1);
        y.hours(9);
        Check.due("moves: just sound enough", y, y.moves(0, 2), 2, 0, 0, 1, 1);
    }

    private static void movesLeastRow() {
        BridgesAreLent x = Check.laid("3;ab1:2;ab1:1;bc1:2;bc1:1", "15;25;25", "a5");
        Check.due("moves: the shorter one to the lesser width", x, x.moves(0, 2), 2, 0, 1, 1, 2);
        // b - c has a bridge that is moved away to a - b only if c - b is not needed
        BridgesAreLent y = Check.laid("3;ab1:1;bc1:1;ac1:1", "15;15", "a5", 1);
        Check.due("moves: one laid elsewhere", y, y.moves(0, 1), 1, 0, 0);
        Check.due("moves: one laid elsewhere, c", y, y.moves(0, 2), 1, 0, 2);
        // a place that a moved bridge leaves is not free
        BridgesAreLent z = Check.laid("3;ab1:1;bc1:3", "15;35", "a5", NONE, 0);
        Check.due("moves: a place that is left", z.moves(0, 2), -2);
    }

    private static void needed() {
        BridgesAreLent x = Check.object("5;ab1:1;bc1:1;cd1:1;ab2:1;de2:1", "10;19;19;19", "");
        Check.refused("needed: none", x, x::needed, -2);
        x.tow(0, 0);
        Check.refused("needed: towed", x, x::needed, -2);
        x.hours(9);
        Check.due("needed: the only one", x, x.needed(), 0, 0, 1);
        x.tow(1, 3);
        x.hours(9);
        Check.due("needed: neither, the first", x, x.needed(), 0, 1, 1);
        x.tow(2, 2);
        x.hours(9);
        Check.due("needed: the third", x, x.needed(), 2, 1, 2);
        x.tow(3, 1);
        x.hours(9);
        Check.due("needed: the one in the middle", x, x.needed(), 3, 2, 6);
    }
}
