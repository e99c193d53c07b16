/** Promises 1 to 7: a new object, THE TEXT, and what it tells. */
public final class TextsTest {
    private static final int NONE = BridgesAreLent.NONE;

    public static void main(String[] args) {
        newObject();
        sign();
        end();
        river();
        riverForgets();
        bridges();
        bridgesWithoutRoom();
        people();
        ruleReads();
        ruleRefuses();
        ruleReckons();
        Check.finish();
    }

    private static void newObject() {
        BridgesAreLent x = new BridgesAreLent();
        for (int what = 0; what <= 13; what++) {
            Check.due("new: count " + what, x.count(what), 0);
        }
        Check.missing("new: crossing", () -> x.crossing(0, 0));
        Check.missing("new: row", () -> x.row(0));
        Check.due("NONE", BridgesAreLent.NONE, -1);
    }

    private static void sign() {
        BridgesAreLent x = new BridgesAreLent();
        Check.due("the highest byte is the first", x.sign(0x323B6162), 4);
        x.sign(0x353A3100);
        x.end(7);
        Check.due("the highest byte is the first: river", x.river(), 1);
        for (int i = 1; i <= 20; i++) {
            Check.due("sign " + i, x.sign(-1), 4 * i);
        }
        Check.refused("sign: 84 signs", x, () -> x.sign(0), NONE);
        Check.due("sign: the text stays", x.count(12), 80);
        x.end(77);
        Check.due("sign: 81 signs", x.sign(0), NONE);
        x.end(76);
        Check.due("sign: 80 signs", x.sign(0), 80);
    }

    private static void end() {
        BridgesAreLent x = new BridgesAreLent();
        Check.due("end of nothing", x.end(0), true);
        Check.due("end 1 of nothing", x.end(1), false);
        Check.write(x, "2;ab5:7x");
        Check.due("end: one more", x.end(9), false);
        Check.due("end: below 0", x.end(-1), false);
        Check.due("end: lowest", x.end(Integer.MIN_VALUE), false);
        Check.due("end: refused, so it stays", x.count(12), 8);
        Check.due("end: all", x.end(8), true);
        Check.due("end: 7", x.end(7), true);
        Check.due("end: 7 signs", x.count(12), 7);
        Check.due("end: the first 7", x.river(), 1);
        Check.due("a call that reads it empties it", x.count(12), 0);
    }

    private static void riverAt(String text, int place) {
        BridgesAreLent x = Check.object("3;ac7:2", "11", "b1");
        Check.write(x, text);
        Check.refused("river " + text, x, x::river, -1 - place);
        Check.due("river " + text + ": the text", x.count(12), 0);
    }

    private static void river() {
        BridgesAreLent x = new BridgesAreLent();
        Check.due("river", Check.river(x, Check.RIVER), 4);
        Check.due("river: banks", x.count(0), 4);
        Check.due("river: crossings", x.count(1), 4);
        Check.due("river: none", Check.river(x, "2"), 0);
        Check.due("river: none: banks", x.count(0), 2);
        Check.due("river: none once more", Check.river(x, "3"), 0);
        Check.due("river: none once more: crossings", x.count(1), 0);
        Check.due("river: places of two digits", Check.river(x, "8" + Check.times(";gh99:9", 10)), 10);
        Check.due("river: last", x.crossing(9, 0) * 1000 + x.crossing(9, 1) * 100 + x.crossing(9, 2), 6799);
        Check.due("river: 05", Check.river(x, "8;ha05:1"), 1);
        Check.due("river: 05 is 5", x.crossing(0, 2), 5);
        Check.due("river: no bank first", Check.river(x, "8;ha00:1"), 1);
        riverAt("", 0);
        riverAt("1", 0);
        riverAt("9", 0);
        riverAt("a", 0);
        riverAt("22", 1);
        riverAt("2,", 1);
        riverAt("2;", 2);
        riverAt("2;A", 2);
        riverAt("2;c", 2);
        riverAt("2;a", 3);
        riverAt("2;aa", 3);
        riverAt("2;bb1:1", 3);
        riverAt("2;ac1:1", 3);
        riverAt("2;ab", 4);
        riverAt("2;ab:", 4);
        riverAt("2;ab5", 5);
        riverAt("2;ab5;", 5);
        riverAt("2;ab555:1", 6);
        riverAt("2;ab55:", 7);
        riverAt("2;ab55:0", 7);
        riverAt("2;ab55:12", 8);
        riverAt("2;ab55:1;", 9);
        riverAt("2;ab55:1;ab", 11);
        riverAt("2" + Check.times(";ab5:1", 10) + ";", 61);
        riverAt("2" + Check.times(";ab55:1", 10) + ";ab1:1", 71);
        riverAt("2" + Check.times(";ab55:1", 10) + "x12345678", 71);
        riverAt("2\u0000\u0000\u0000", 1);
        riverAt("\u00ff", 0);
    }

    private static void riverForgets() {
        BridgesAreLent x = Check.laid(Check.RIVER, Check.BRIDGES, Check.PEOPLE, NONE, 0);
        x.hours(1);
        x.keep(0);
        x.found(0, 5, 1);
        x.tow(2, 2);
        x.lend(2, 99);
        Check.rule(x, "7");
        Check.due("river anew", Check.river(x, "2;ab1:1"), 1);
        Check.due("river anew: bridges", x.count(2), 0);
        Check.due("river anew: people", x.count(3), 0);
        Check.due("river anew: now", x.count(4), 0);
        Check.due("river anew: undone", x.undo(), NONE);
        Check.due("river anew: kept", x.again(0), false);
        Check.bridges(x, Check.BRIDGES);
        Check.people(x, "a1;b1");
        Check.due("river anew: kept, as many bridges and people", x.again(0), false);
        Check.due("river anew: what was found stays", x.count(9), 1);
        Check.due("river anew: the rule stays", x.takes(0, 0), 7);
        Check.due("river anew: bridges are in the shed", x.count(5), 7);
        Check.due("river anew: none is lent", x.count(7), 0);
    }

    private static void linesAt(BridgesAreLent x, boolean bridges, String text, int place) {
        Check.write(x, text);
        Check.refused("lines " + text, x, bridges ? x::bridges : x::people, -1 - place);
        Check.due("lines " + text + ": the text", x.count(12), 0);
    }

    private static void bridges() {
        BridgesAreLent x = new BridgesAreLent();
        Check.due("bridges without a river", Check.bridges(x, "10"), 1);
        Check.river(x, Check.RIVER);
        Check.due("bridges: none", Check.bridges(x, ""), 0);
        Check.due("bridges: two", Check.bridges(x, "10;99"), 2);
        Check.due("bridges: one more", Check.bridges(x, "55"), 1);
        Check.due("bridges: in all", x.count(2), 3);
        Check.due("bridges: the third", x.bridge(2, 0) * 10 + x.bridge(2, 1), 55);
        Check.due("bridges: the second", x.bridge(1, 0) * 10 + x.bridge(1, 1), 99);
        Check.due("bridges: in the shed", x.count(5), 7);
        Check.due("bridges: not lent", x.count(7), 0);
        linesAt(Check.object(Check.RIVER, "10;99;55", ""), true, "0", 0);
        linesAt(Check.object(Check.RIVER, "10;99;55", ""), true, "05", 0);
        linesAt(Check.object(Check.RIVER, "10;99;55", ""), true, "a5", 0);
        linesAt(Check.object(Check.RIVER, "10;99;55", ""), true, ";", 0);
        linesAt(Check.object(Check.RIVER, "10;99;55", ""), true, "5", 1);
        linesAt(Check.object(Check.RIVER, "10;99;55", ""), true, "5;", 1);
        linesAt(Check.object(Check.RIVER, "10;99;55", ""), true, "555", 2);
        linesAt(Check.object(Check.RIVER, "10;99;55", ""), true, "55,55", 2);
        linesAt(Check.object(Check.RIVER, "10;99;55", ""), true, "55;", 3);
        linesAt(Check.object(Check.RIVER, "10;99;55", ""), true, "55;0", 3);
        linesAt(Check.object(Check.RIVER, "10;99;55", ""), true, "55;44;3", 7);
    }

    private static void bridgesWithoutRoom() {
        BridgesAreLent x = Check.object(Check.RIVER, "11;11;11;11", "");
        linesAt(x, true, "22;22;", 6);
        linesAt(x, true, "22;22;22", 6);
        linesAt(x, true, "22;22;x", 6);
        linesAt(x, true, "22;22x", 5);
        Check.due("bridges: the last two", Check.bridges(x, "22;22"), 2);
        linesAt(x, true, "1", 0);
        linesAt(x, true, "x", 0);
        Check.due("bridges: nothing still comes", Check.bridges(x, ""), 0);
        BridgesAreLent y = Check.object(Check.RIVER, "", "");
        linesAt(Check.object(Check.RIVER, "", ""), true, "11;11;11;11;11;11;", 17);
        linesAt(Check.object(Check.RIVER, "", ""), true, "11;11;11;11;11;11;11", 17);
        linesAt(Check.object(Check.RIVER, "", ""), true, "11;11;11;11;11;111", 17);
        linesAt(Check.object(Check.RIVER, "", ""), true, "11;11;11;11;11;1x1", 16);
        Check.due("bridges: 17 signs", Check.bridges(y, "11;12;13;14;15;16"), 6);
        Check.due("bridges: the sixth", y.bridge(5, 1), 6);
    }

    private static void people() {
        BridgesAreLent x = new BridgesAreLent();
        linesAt(new BridgesAreLent(), false, "a1", 0);
        Check.due("people: none without a river", Check.people(x, ""), 0);
        Check.river(x, Check.RIVER);
        Check.due("people", Check.people(x, "d9;a1"), 2);
        Check.due("people: one more", Check.people(x, "b5"), 1);
        Check.due("people: in all", x.count(3), 3);
        Check.due("people: the first", x.person(0, 0) * 10 + x.person(0, 1), 39);
        Check.due("people: the third", x.person(2, 0) * 10 + x.person(2, 1), 15);
        linesAt(Check.object(Check.RIVER, "", "d9;a1;b5"), false, "e1", 0);
        linesAt(Check.object(Check.RIVER, "", "d9;a1;b5"), false, "`1", 0);
        linesAt(Check.object(Check.RIVER, "", "d9;a1;b5"), false, "A1", 0);
        linesAt(Check.object(Check.RIVER, "", "d9;a1;b5"), false, "a", 1);
        linesAt(Check.object(Check.RIVER, "", "d9;a1;b5"), false, "a0", 1);
        linesAt(Check.object(Check.RIVER, "", "d9;a1;b5"), false, "a12", 2);
        linesAt(Check.object(Check.RIVER, "", "d9;a1;b5"), false, "a1;", 3);
        linesAt(Check.object(Check.RIVER, "", "d9;a1;b5"), false, "a1;e1", 3);
        linesAt(Check.object(Check.RIVER, "", "d9;a1;b5"), false, "a1;a1;a1;a1", 9);
        linesAt(Check.object(Check.RIVER, "", "d9;a1;b5"), false, "a1;a1;a1;", 9);
        Check.due("people: the last three", Check.people(x, "a1;b2;c3"), 3);
        linesAt(x, false, "a1", 0);
        Check.due("people: nothing still comes", Check.people(x, ""), 0);
        BridgesAreLent y = Check.object(Check.RIVER, "", "");
        linesAt(y, false, "a1;a1;a1;a1;a1;a1;", 17);
        Check.due("people: 17 signs", Check.people(y, "a1;a1;a1;a1;a1;a1"), 6);
    }

    private static void ruleAt(String text, int place) {
        BridgesAreLent x = Check.object(Check.RIVER, Check.BRIDGES, Check.PEOPLE);
        Check.rule(x, "77");
        Check.write(x, text);
        Check.refused("rule " + text, x, x::rule, -1 - place);
        Check.due("rule " + text + ": the text", x.count(12), 0);
        Check.due("rule " + text + ": the old one stays", x.takes(0, 0), 77);
    }

    /** A tow of BRIDGE 0 (LENGTH 5, SOUND 3) from THE SHED to CROSSING 1 (PLACE 30, WIDTH 4). */
    private static void ruleGives(String text, int hours) {
        BridgesAreLent x = Check.object(Check.RIVER, Check.BRIDGES, Check.PEOPLE);
        Check.due("rule " + text, Check.rule(x, text), 0);
        Check.due("hours by " + text, x.takes(0, 1), hours);
    }

    private static void ruleReads() {
        ruleGives("", 4);
        ruleGives("d", 30);
        ruleGives("l", 5);
        ruleGives("s", 3);
        ruleGives("w", 4);
        ruleGives("b+8", 8);
        ruleGives("u+8", 8);
        ruleGives("n+8", 8);
        ruleGives("((((7))))", 7);
        ruleGives("(((7)))+((((2))))", 9);
        ruleGives("007", 7);
        ruleGives(Check.times("1+", 19) + "12", 31);
        ruleGives(Check.times("-", 38) + "55", 55);
        ruleGives(Check.times("-", 39) + "5", 1);
        BridgesAreLent x = Check.object(Check.RIVER, Check.BRIDGES, Check.PEOPLE);
        Check.rule(x, "33");
        Check.due("rule: 33", x.takes(0, 1), 33);
        Check.due("rule: none", Check.rule(x, ""), 0);
        Check.due("rule: none: as at first", x.takes(0, 1), 4);
    }

    private static void ruleRefuses() {
        ruleAt("x", 0);
        ruleAt(")", 0);
        ruleAt("+1", 0);
        ruleAt("D", 0);
        ruleAt("1+", 2);
        ruleAt("-", 1);
        ruleAt("1*/2", 2);
        ruleAt("1d", 1);
        ruleAt("dd", 1);
        ruleAt("d1", 1);
        ruleAt("1234", 3);
        ruleAt("1(2)", 1);
        ruleAt("()", 1);
        ruleAt("(1", 2);
        ruleAt("(1))", 3);
        ruleAt("(((((7)))))", 4);
        ruleAt("1<", 2);
        ruleAt("1<2<3", 3);
        ruleAt("1<2=3", 3);
        ruleAt("1<=2", 2);
        ruleAt("(1>2>3)", 4);
        ruleAt("1+1=2>1", 5);
        ruleAt(Check.times("1+", 20), 40);
        ruleAt(Check.times("1+", 20) + "1", 40);
        ruleAt(Check.times("1+", 19) + "123", 40);
        ruleAt(Check.times("1+", 19) + "1x1", 39);
        ruleAt(Check.times("-", 80), 40);
        ruleAt("(" + Check.times("1+", 19) + "1", 40);
        ruleAt("(" + Check.times("1+", 19) + "1)", 40);
    }

    private static void ruleReckons() {
        ruleGives("2+3*4", 14);
        ruleGives("(2+3)*4", 20);
        ruleGives("20-5-3", 12);
        ruleGives("20-(5-3)", 18);
        ruleGives("40/7/2", 2);
        ruleGives("3*9/4", 6);
        ruleGives("9/4*3", 6);
        ruleGives("7/0+5", 5);
        ruleGives("-7/2+9", 6);
        ruleGives("7/-2+9", 6);
        ruleGives("--5", 5);
        ruleGives("---5+9", 4);
        ruleGives("3--2", 5);
        ruleGives("2*-3+9", 3);
        ruleGives("-(2-9)", 7);
        ruleGives("(1<2)*7", 7);
        ruleGives("(2<2)*7+3", 3);
        ruleGives("(2>1)*7", 7);
        ruleGives("(1>1)*7+3", 3);
        ruleGives("(2=2)*7", 7);
        ruleGives("(2=1)*7+3", 3);
        ruleGives("(1+1=2)*8", 8);
        ruleGives("(5>1+3)*8", 8);
        ruleGives("((1<2)=1)*6", 6);
        ruleGives("0", 1);
        ruleGives("0-5", 1);
        ruleGives("99", 99);
        ruleGives("100", 99);
        ruleGives("999*999*999", 99);
        ruleGives("999*999*999*999", 1);
        ruleGives("9*(512*512*512*16/-1<0)", 9);
        ruleGives("9*(512*512*512*16<0)", 9);
        BridgesAreLent x = Check.laid(Check.RIVER, Check.BRIDGES, "", NONE, 2);
        x.hours(24);
        Check.rule(x, "b*10+n");
        Check.due("rule: number, NOW by 24", x.takes(1, 0), 11);
        Check.rule(x, "d+u*50");
        Check.due("rule: up the river", x.takes(1, 0), 90);
        Check.due("rule: to the shed", x.takes(1, NONE), 99);
        Check.rule(x, "w+7");
        Check.due("rule: width of the shed", x.takes(1, NONE), 7);
        Check.rule(x, "u+7");
        Check.due("rule: down the river", x.takes(0, 0), 7);
        BridgesAreLent y = Check.laid("2;ab7:1;ab7:1;ab0:1", "11", "", 0);
        Check.rule(y, "d*9+u*5+3");
        Check.due("rule: to a like place", y.takes(0, 1), 3);
        Check.due("rule: to place 0", y.takes(0, 2), 71);
    }
}
