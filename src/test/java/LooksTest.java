/** Promises 8 to 11: what is told of CROSSINGS, BRIDGES, PEOPLE, and the sheet. */
public final class LooksTest {
    private static final int NONE = BridgesAreLent.NONE;

    public static void main(String[] args) {
        crossing();
        bridge();
        person();
        sheet();
        sheetRefuses();
        Check.finish();
    }

    private static void crossing() {
        BridgesAreLent x = Check.object("4;ab10:3;dc3:4", "54;99", "");
        int[] want = {3, 2, 3, 4, NONE, NONE};
        for (int what = 0; what < want.length; what++) {
            Check.due("crossing 1: " + what, x.crossing(1, what), want[what]);
        }
        x.tow(1, 1);
        Check.due("crossing: towed there", x.crossing(1, 5), 1);
        Check.due("crossing: not yet there", x.crossing(1, 4), NONE);
        x.hours(x.bridge(1, 3));
        Check.due("crossing: there", x.crossing(1, 4), 1);
        Check.due("crossing: towed there no more", x.crossing(1, 5), NONE);
        x.tow(1, 0);
        Check.due("crossing: there no more", x.crossing(1, 4), NONE);
        Check.missing("crossing: number 2", () -> x.crossing(2, 0));
        Check.missing("crossing: number -1", () -> x.crossing(-1, 0));
        Check.missing("crossing: what -1", () -> x.crossing(0, -1));
        Check.missing("crossing: what 6", () -> x.crossing(0, 6));
    }

    private static void bridge() {
        BridgesAreLent x = Check.object(Check.RIVER, "54;90", "");
        int[] want = {9, 0, NONE, 0, NONE};
        for (int what = 0; what < want.length; what++) {
            Check.due("bridge 1: " + what, x.bridge(1, what), want[what]);
        }
        x.tow(1, 2);
        x.lend(1, 77);
        Check.due("bridge: to which it is towed", x.bridge(1, 2), 2);
        Check.due("bridge: hours yet", x.bridge(1, 3), 6);
        Check.due("bridge: lent", x.bridge(1, 4), 77);
        x.hours(5);
        Check.due("bridge: an hour yet", x.bridge(1, 3), 1);
        x.hours(1);
        Check.due("bridge: it is there", x.bridge(1, 3), 0);
        Check.due("bridge: where it is", x.bridge(1, 2), 2);
        x.tow(1, NONE);
        Check.due("bridge: towed to the shed", x.bridge(1, 2), NONE);
        Check.due("bridge: towed to the shed: hours", x.bridge(1, 3), 8);
        Check.missing("bridge: number 2", () -> x.bridge(2, 0));
        Check.missing("bridge: number -1", () -> x.bridge(-1, 0));
        Check.missing("bridge: what -1", () -> x.bridge(0, -1));
        Check.missing("bridge: what 5", () -> x.bridge(0, 5));
    }

    private static void person() {
        BridgesAreLent x = Check.object(Check.RIVER, "", "d7;a1");
        Check.due("person: bank", x.person(0, 0), 3);
        Check.due("person: weight", x.person(0, 1), 7);
        Check.missing("person: number 2", () -> x.person(2, 0));
        Check.missing("person: number -1", () -> x.person(-1, 0));
        Check.missing("person: what -1", () -> x.person(0, -1));
        Check.missing("person: what 2", () -> x.person(0, 2));
    }

    private static void sheetGives(String what, BridgesAreLent x, int got, int want, int... sounds) {
        Check.due("sheet: " + what, got, want);
        for (int b = 0; b < sounds.length; b++) {
            Check.due("sheet: " + what + ": sound of " + b, x.bridge(b, 1), sounds[b]);
        }
    }

    private static void sheet() {
        BridgesAreLent x = Check.object(Check.RIVER, "15;15;15;15", "");
        sheetGives("ints", x, x.sheet(2, 4, 1, 2), 16, 1, 3, 5, 7);
        sheetGives("those behind it", x, x.sheet(2, 2, 4, 1), 9, 4, 5, 0, 0);
        sheetGives("none", x, x.sheet(2, 0, 4, 1), 0, 0, 0, 0, 0);
        sheetGives("more than there are", x, x.sheet(2, 6, 2, 1), 14, 2, 3, 4, 5);
        sheetGives("put to 0 .. 9", x, x.sheet(2, 4, -1, 5), 22, 0, 4, 9, 9);
        sheetGives("bytes", x, x.sheet(0, 4, 253, 2), 4, 0, 0, 1, 3);
        sheetGives("bytes: 127, 128", x, x.sheet(0, 2, 127, 1), 9, 9, 0, 0, 0);
        sheetGives("shorts", x, x.sheet(1, 4, 65533, 2), 4, 0, 0, 1, 3);
        sheetGives("shorts: 32767, 32768", x, x.sheet(1, 2, 32767, 1), 9, 9, 0, 0, 0);
        sheetGives("bytes of shorts", x, x.sheet(1, 2, 253, 2), 18, 9, 9, 0, 0);
        sheetGives("ints: 32768", x, x.sheet(2, 1, 32768, 0), 9, 9, 0, 0, 0);
        sheetGives("ints: as ints", x, x.sheet(2, 3, Integer.MAX_VALUE, 1), 9, 9, 0, 0, 0);
        sheetGives("ints: back", x, x.sheet(2, 4, Integer.MIN_VALUE, Integer.MIN_VALUE + 3), 12, 0, 3, 0, 9);
        sheetGives("missing", x, x.sheet(3, 4, 5, 5), -3, 0, 0, 0, 0);
        x.sheet(2, 4, 5, 0);
        sheetGives("missing: n below 0", x, x.sheet(3, -1, 5, 5), -3, 0, 0, 0, 0);
        x.sheet(2, 4, 5, 0);
        Check.due("sheet: nothing to be undone", x.count(10), 0);
        x.hours(1);
        x.sheet(2, 4, 7, 0);
        Check.due("sheet: an earlier deed is undone", x.undo(), 0);
        Check.due("sheet: sound as ahead of it", x.bridge(3, 1), 5);
    }

    private static void sheetRefuses() {
        BridgesAreLent x = Check.object(Check.RIVER, "15;16", "");
        Check.refused("sheet: kind 4", x, () -> x.sheet(4, 1, 1, 1), NONE);
        Check.refused("sheet: kind -1", x, () -> x.sheet(-1, 1, 1, 1), NONE);
        Check.refused("sheet: kind 4, n below 0", x, () -> x.sheet(4, -1, 1, 1), NONE);
        Check.refused("sheet: 7", x, () -> x.sheet(0, 7, 1, 1), NONE);
        Check.refused("sheet: missing, 7", x, () -> x.sheet(3, 7, 1, 1), NONE);
        for (int kind = 0; kind <= 2; kind++) {
            int of = kind;
            Check.refused("sheet: n below 0, kind " + kind, x, () -> x.sheet(of, -1, 1, 1), -2);
        }
    }
}
