/** Terms 1, THE RULE: each bound that they name. */
final class EdgesOfRule {
    private static final int NONE = BridgesAreLent.NONE;
    /** 2 to the 31st: as an int the lowest one. */
    private static final String LOWEST = "(512*512*512*16)";

    private EdgesOfRule() {
    }

    static void all() {
        fortySigns();
        none();
        compared();
        summed();
        multiplied();
        minusAhead();
        numbers();
        deep();
        apart();
        up();
        lengthSoundWidth();
        numberAndNow();
        ints();
        putTo();
    }

    private static BridgesAreLent usual() {
        return Check.object(Check.RIVER, Check.BRIDGES, Check.PEOPLE);
    }

    /** A tow of BRIDGE 0 (LENGTH 5, SOUND 3) from THE SHED to CROSSING 1 (PLACE 30, WIDTH 4). */
    private static void gives(String rule, int hours) {
        BridgesAreLent x = usual();
        Edges.takes(x, BridgesAreLent::rule, rule, 0);
        Check.due("hours by " + rule, x.takes(0, 1), hours);
    }

    private static void at(String rule, int place) {
        BridgesAreLent x = usual();
        Check.rule(x, "77");
        Edges.at(x, BridgesAreLent::rule, rule, place);
        Check.due(rule + ": the rule ahead of it stays", x.takes(0, 1), 77);
    }

    private static void fortySigns() {
        Doc.says(Doc.TERMS, "THE RULE is a text of at most 40 signs");
        String forty = Check.times("1+", 19) + "21";
        Check.due("signs", forty.length(), 40);
        gives(forty, 40);
        gives(Check.times("1+", 19) + "1", 20);
        gives("-l" + Check.times("+l", 19), 90);
        at(forty + "1", 40);
    }

    private static void none() {
        Doc.says(Doc.TERMS, "(at first none: d/9+u*2+1).");
        BridgesAreLent x = Check.laid("2;ab8:1;ab9:1;ab17:1;ab18:1;ab99:1", "19;19", "", 1);
        int[] hours = {1, 2, 2, 3, 12};
        for (int c = 0; c < hours.length; c++) {
            Check.due("from the shed to " + c, c == 1 ? 2 : x.takes(1, c), hours[c]);
        }
        Check.due("up by 1", x.takes(0, 0), 3);
        Check.due("up by 9, to the shed", x.takes(0, NONE), 4);
        Check.due("down by 8", x.takes(0, 2), 1);
        Check.due("down by 9", x.takes(0, 3), 2);
        BridgesAreLent y = Check.object("2;ab18:1", "19", "");
        Check.due("no rule was told yet", y.takes(0, 0), 3);
    }

    private static void compared() {
        Doc.says(Doc.TERMS, "EXPRESSION: < > = bind least (two; 1 or 0; not one behind the other),");
        gives("(1<2)*8+1", 9);
        gives("(2<2)*8+1", 1);
        gives("(3<2)*8+1", 1);
        gives("(2>1)*8+1", 9);
        gives("(2>2)*8+1", 1);
        gives("(2>3)*8+1", 1);
        gives("(2=2)*8+1", 9);
        gives("(2=3)*8+1", 1);
        gives("(3=2)*8+1", 1);
        gives("7<2+9", 1);
        gives("9+7<2", 1);
        gives("9*1<9", 1);
        gives("5+(2=1+1)*8", 13);
        gives("5+(2*3=3+3)*8", 13);
        gives("5+(-1<0)*8", 13);
        gives("9*((1<2)=(2<3))", 9);
        at("1<2<3", 3);
        at("1<2>3", 3);
        at("1=1=1", 3);
        at("(1>2)>3=1", 7);
        at("(1<2<3)", 4);
        at("1<", 2);
        at("<1", 0);
        at("1<=2", 2);
    }

    private static void summed() {
        Doc.says(Doc.TERMS, "then + - (from the left),");
        gives("20-5-3", 12);
        gives("20-5+3", 18);
        gives("20+5-3", 22);
        gives("20-(5-3)", 18);
        gives("2+3*4", 14);
        gives("20-8/4", 18);
        at("1+", 2);
        at("1-", 2);
        at("+1", 0);
        at("1++1", 2);
    }

    private static void multiplied() {
        Doc.says(Doc.TERMS, "then * / (from the left; by 0: 0; cut to 0),");
        gives("40/7/2", 2);
        gives("40/(7/2)", 13);
        gives("7/2*2", 6);
        gives("2*7/2", 7);
        gives("5/0+7", 7);
        gives("-5/0+7", 7);
        gives("0/0+7", 7);
        gives("9/(l-5)+7", 7);
        gives(LOWEST + "/0+7", 7);
        gives("0/5+7", 7);
        gives("7/2+9", 12);
        gives("-7/2+9", 6);
        gives("7/-2+9", 6);
        gives("-7/-2+9", 12);
        gives("1/2+9", 9);
        gives("-1/2+9", 9);
        at("1*", 2);
        at("1/", 2);
        at("*1", 0);
        at("1*/2", 2);
    }

    private static void minusAhead() {
        Doc.says(Doc.TERMS, "then - ahead of a thing (any many); things:");
        gives("-5+9", 4);
        gives("--5", 5);
        gives("---5+9", 4);
        gives("2*-3+9", 3);
        gives("2*--3", 6);
        gives("8/-2+9", 5);
        gives("2--3", 5);
        gives("2---3+9", 8);
        gives("-(2-9)", 7);
        gives("-d+39", 9);
        gives("1=-1+2", 1);
        // it binds more than / does: the lowest int, taken negative, is itself, and its half is below 0
        gives("-" + LOWEST + "/2", 1);
        gives("-(" + LOWEST + "/2)", 99);
        gives(Check.times("-", 38) + "55", 55);
        gives(Check.times("-", 37) + "5+9", 4);
        at("-", 1);
        at("-+1", 1);
        at("1+-", 3);
        at(Check.times("-", 40), 40);
        at(Check.times("-", 41), 40);
    }

    private static void numbers() {
        Doc.says(Doc.TERMS, "a NUMBER of 1 to 3 digits,");
        gives("7", 7);
        gives("0", 1);
        gives("77", 77);
        gives("00", 1);
        gives("009", 9);
        gives("999-950", 49);
        gives("100-1", 99);
        at("1000", 3);
        at("0009", 3);
        at("12+1234", 6);
        at("123d", 3);
    }

    private static void deep() {
        Doc.says(Doc.TERMS, "an EXPRESSION in ( ) (at most 4 in one another),");
        gives("(7)", 7);
        gives("((((7))))", 7);
        gives("((((1))))+((((6))))", 7);
        gives("(1)+(2)+(3)+(4)+(5)+(6)", 21);
        gives("2*(1+(1+(1+(1+1))))", 10);
        gives("-(-(-(-(7))))", 7);
        at("(((((7)))))", 4);
        at("1*(1+(1+(1+(1+(1)))))", 14);
        at("-(-(-(-(-(7)))))", 9);
        at("((((1))))+(((((6)))))", 14);
        at("()", 1);
        at("(", 1);
        at("(1", 2);
        at("1)", 1);
        at("((((7)))))", 9);
    }

    private static void apart() {
        Doc.says(Doc.TERMS, "and, of a tow of a BRIDGE: d how far its PLACES are apart,");
        BridgesAreLent x = Check.laid("2;ab0:1;ab50:1;ab50:1;ab98:1", "19", "", 1);
        Check.rule(x, "d+1");
        Check.due("down", x.takes(0, 3), 49);
        Check.due("up", x.takes(0, 0), 51);
        Check.due("to the shed", x.takes(0, NONE), 51);
        Check.due("a like place", x.takes(0, 2), 1);
        x.tow(0, 0);
        x.hours(99);
        Check.due("the farthest", x.takes(0, 3), 99);
        Check.due("from place 0 to the shed", x.takes(0, NONE), 1);
    }

    private static void up() {
        Doc.says(Doc.TERMS, "u 1 if up the river (to a lesser PLACE),");
        BridgesAreLent x = Check.laid("2;ab49:1;ab50:1;ab50:1;ab51:1;ab0:1", "19;19", "", 1, 4);
        Check.rule(x, "u+5");
        Check.due("to a lesser place", x.takes(0, 0), 6);
        Check.due("to a like place", x.takes(0, 2), 5);
        Check.due("to a greater place", x.takes(0, 3), 5);
        Check.due("to the shed", x.takes(0, NONE), 6);
        Check.due("from place 0 to the shed", x.takes(1, NONE), 5);
    }

    private static void lengthSoundWidth() {
        Doc.says(Doc.TERMS, "l LENGTH, s SOUND, w WIDTH of where it goes (0 THE SHED),");
        BridgesAreLent x = Check.laid("2;ab1:1;ab2:9", "90;99", "", 0, 1);
        Check.rule(x, "l+1");
        Check.due("length", x.takes(0, NONE), 10);
        Check.rule(x, "s+1");
        Check.due("sound 0", x.takes(0, NONE), 1);
        Check.due("sound 9", x.takes(1, NONE), 10);
        x.sheet(2, 1, 4, 0);
        Check.due("sound as it is now", x.takes(0, NONE), 5);
        Check.rule(x, "w+5");
        Check.due("the shed", x.takes(1, NONE), 5);
        x.tow(1, NONE);
        x.hours(5);
        Check.due("where it goes, not where it was", x.takes(0, 1), 14);
        x.tow(0, 1);
        x.hours(14);
        Check.due("the least width", x.takes(0, 0), 6);
    }

    private static void numberAndNow() {
        Doc.says(Doc.TERMS, "b the BRIDGE's number, n NOW by 24 (rest).");
        BridgesAreLent x = Check.object("2;ab1:1", "19;19;19;19;19;19", "");
        Check.rule(x, "b+1");
        Check.due("the first bridge", x.takes(0, 0), 1);
        Check.due("the sixth bridge", x.takes(5, 0), 6);
        Check.rule(x, "n+1");
        Check.due("hour 0", x.takes(0, 0), 1);
        x.hours(23);
        Check.due("hour 23", x.takes(0, 0), 24);
        x.hours(1);
        Check.due("hour 24", x.takes(0, 0), 1);
        x.hours(24);
        Check.due("hour 48", x.takes(0, 0), 1);
        x.hours(99);
        Check.due("hour 147", x.takes(0, 0), 4);
    }

    private static void ints() {
        Doc.says(Doc.TERMS, "As ints,");
        gives("512*512*512*16", 1);
        gives("512*512*512*16-1", 99);
        gives("512*512*512*32+50", 50);
        gives("-" + LOWEST, 1);
        gives("-" + LOWEST + "-1", 99);
        gives(LOWEST + "/-1", 1);
        gives(LOWEST + "-1>0", 1);
        gives("9*(" + LOWEST + "-1>0)", 9);
        gives("9*(" + LOWEST + "<0)", 9);
        gives("9*(" + LOWEST + "=-" + LOWEST + ")", 9);
        gives("999*999*999*999", 1);
        gives("999*999*999", 99);
    }

    private static void putTo() {
        Doc.says(Doc.TERMS, "put to 1 .. 99: HOURS that it takes.");
        gives("0-999", 1);
        gives("0-1", 1);
        gives("0", 1);
        gives("1", 1);
        gives("2", 2);
        gives("98", 98);
        gives("99", 99);
        gives("100", 99);
        gives("999", 99);
        BridgesAreLent x = usual();
        Check.rule(x, "100");
        Check.due("a tow takes so many", x.tow(0, 1), 99);
        Check.due("hours yet", x.bridge(0, 3), 99);
        x.hours(98);
        Check.due("an hour ahead of it", x.bridge(0, 3), 1);
        Check.rule(x, "-5");
        Check.due("a tow takes an hour", x.tow(1, 0), 1);
    }
}
