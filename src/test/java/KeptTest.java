/** Promises 42 to 45: what is kept, counts, the ROW. */
public final class KeptTest {
    private static final int NONE = BridgesAreLent.NONE;

    public static void main(String[] args) {
        keep();
        again();
        againRefused();
        count();
        row();
        Check.finish();
    }

    private static void keep() {
        BridgesAreLent x = new BridgesAreLent();
        Check.due("keep: 3", x.keep(3), false);
        Check.due("keep: -1", x.keep(-1), false);
        for (int i = 0; i <= 2; i++) {
            Check.due("keep: again ahead of it " + i, x.again(i), false);
            Check.due("keep " + i, x.keep(i), true);
            Check.due("keep: again " + i, x.again(i), true);
        }
    }

    private static void again() {
        BridgesAreLent x = Check.laid(Check.RIVER, Check.BRIDGES, "a4;c2;b3", 1, 0);
        String first = Check.things(x);
        x.keep(0);
        x.tow(2, 2);
        x.lend(1, 5);
        x.cross(2, 1);
        x.hours(7);
        Check.due("again: a promise was broken", x.count(8), 1);
        String second = Check.things(x);
        x.keep(2);
        x.tow(0, NONE);
        x.sheet(2, 6, 1, 1);
        x.hours(9);
        Check.due("again: 1 is not kept", x.again(1), false);
        Check.due("again: back", x.again(0), true);
        Check.due("again: as it was", Check.things(x), first);
        Check.due("again: nothing can be undone", x.undo(), NONE);
        Check.due("again: forth", x.again(2), true);
        Check.due("again: as it was then", Check.things(x), second);
        x.hours(1);
        x.keep(0);
        String third = Check.things(x);
        x.hours(1);
        x.again(0);
        Check.due("again: kept anew", Check.things(x), third);
        x.hours(3);
        Check.due("again: once more", x.again(0), true);
        Check.due("again: it stays kept", Check.things(x), third);
    }

    private static void againRefused() {
        BridgesAreLent x = Check.object(Check.RIVER, "53", "a4");
        x.keep(0);
        x.hours(1);
        Check.refused("again: 3", x, () -> x.again(3) ? 1 : 0, 0);
        Check.refused("again: -1", x, () -> x.again(-1) ? 1 : 0, 0);
        Check.refused("again: 1", x, () -> x.again(1) ? 1 : 0, 0);
        Check.bridges(x, "");
        Check.people(x, "");
        Check.due("again: nothing came", x.again(0), true);
        x.hours(1);
        Check.bridges(x, "11");
        Check.refused("again: a bridge came", x, () -> x.again(0) ? 1 : 0, 0);
        x.keep(0);
        Check.people(x, "a1");
        Check.refused("again: a person came", x, () -> x.again(0) ? 1 : 0, 0);
        x.keep(0);
        Check.due("again: kept since", x.again(0), true);
    }

    private static void count() {
        BridgesAreLent x = Check.laid(Check.RIVER, "53;49;36;11", "a4;c2", 1, 0);
        x.tow(2, 2);
        x.lend(1, 5);
        x.lend(3, 6);
        x.hours(4);
        x.found(0, 1, 1);
        x.found(0, 2, 1);
        x.tow(0, NONE);
        x.sign(0);
        int[] want = {4, 4, 4, 2, 5, 8, 5, 8, 1, 2, 5, 2, 4, 1};
        for (int what = 0; what < want.length; what++) {
            Check.due("count " + what, x.count(what), want[what]);
        }
        x.hours(99);
        Check.due("count: pairs", x.count(13), 2);
        int[] others = {-1, 14, 100, Integer.MIN_VALUE, Integer.MAX_VALUE};
        for (int what : others) {
            Check.due("count " + what, x.count(what), -100);
        }
    }

    private static void row() {
        BridgesAreLent x = Check.laid(Check.RIVER, Check.BRIDGES, "a4;c2", 1, 0);
        x.share(0xFFFFFF, 0, 5, 1);
        Check.row("row", x, 2, 0);
        Check.missing("row: lowest", () -> x.row(Integer.MIN_VALUE));
        Check.missing("row: greatest", () -> x.row(Integer.MAX_VALUE));
        x.tow(2, 2);
        x.lend(0, 9);
        x.cross(0, 0);
        x.undo();
        x.found(0, 1, 1);
        x.forget();
        x.keep(0);
        x.again(0);
        x.soonest(0, 2);
        x.takes(0, 2);
        x.sheet(2, 6, 1, 1);
        Check.rule(x, "5");
        Check.river(x, "2");
        Check.row("row: calls that tell none leave it", x, 2, 0);
    }
}
