/** Terms 1 and 2: each bound that they name. */
final class EdgesOfTerms {
    private static final int NONE = BridgesAreLent.NONE;
    private static final String SIX_BRIDGES = "11;22;33;44;55;66";
    private static final String SIX_PEOPLE = "a1;a2;b3;b4;a5;b6";

    private EdgesOfTerms() {
    }

    static void all() {
        lastCalls();
        banks();
        crossings();
        unlikeBanks();
        place();
        width();
        riverText();
        sixBridges();
        lengthAndSound();
        shed();
        atCrossing();
        towed();
        bridgesText();
        sixPeople();
        peopleText();
        loans();
        anHour();
        loansEnd();
        EdgesOfRule.all();
        row();
        sets();
        leastRows();
        fractions();
        open();
        joined();
        pairs();
        EdgesOfRefusal.all();
    }

    private static BridgesAreLent empty() {
        return new BridgesAreLent();
    }

    private static void lastCalls() {
        Doc.says(Doc.WHAT_IT_IS, "An object is used for at most 512 calls after it has been made;");
        BridgesAreLent x = empty();
        for (int call = 1; call <= 511; call++) {
            Check.due("call " + call, x.hours(99), 99 * call);
        }
        Check.due("call 512", x.undo(), 14);
        BridgesAreLent y = Check.laid("2;ab1:1", "19", "a1", 0);
        // 25 calls were made for it
        for (int i = 0; i < 486; i++) {
            Check.due("there and back", y.cross(0, 0), 1 - i % 2);
        }
        Check.due("call 512: where it is", y.person(0, 0), 0);
        BridgesAreLent z = empty();
        for (int call = 1; call <= 511; call++) {
            Check.due("call " + call, z.end(0), true);
        }
        Check.due("call 512: a sign", z.sign(0), 4);
    }

    private static void banks() {
        Doc.says(Doc.TERMS, "BANKS 0 .. (2 .. 8; written a .. h).");
        for (int banks = 2; banks <= 8; banks++) {
            BridgesAreLent x = empty();
            char last = (char) ('a' + banks - 1);
            char next = (char) (last + 1);
            Edges.takes(x, BridgesAreLent::river, banks + ";a" + last + "5:1", 1);
            Check.due("banks", x.count(0), banks);
            Check.due("the last letter is the last bank", x.crossing(0, 1), banks - 1);
            Check.due("a is bank 0", x.crossing(0, 0), 0);
            Edges.at(x, BridgesAreLent::river, banks + ";a" + next + "5:1", 3);
            Edges.at(x, BridgesAreLent::river, banks + ";" + next + "a5:1", 2);
        }
        Edges.at(empty(), BridgesAreLent::river, "1;ab5:1", 0);
        Edges.at(empty(), BridgesAreLent::river, "9;ab5:1", 0);
        Edges.at(empty(), BridgesAreLent::river, "0", 0);
    }

    private static void crossings() {
        Doc.says(Doc.TERMS, "CROSSINGS 0 .. (at most 10):");
        BridgesAreLent x = empty();
        for (int n = 0; n <= 10; n++) {
            Edges.takes(x, BridgesAreLent::river, "2" + Check.times(";ab5:1", n), n);
            Check.due("crossings", x.count(1), n);
            Edges.missing("crossings", 0, n - 1, c -> x.crossing(c, 0));
        }
        Edges.at(x, BridgesAreLent::river, "2" + Check.times(";ab5:1", 11), 61);
    }

    private static void unlikeBanks() {
        Doc.says(Doc.TERMS, "two unlike BANKS,");
        BridgesAreLent x = empty();
        for (char bank = 'a'; bank <= 'h'; bank++) {
            Edges.at(x, BridgesAreLent::river, "8;" + bank + bank + "5:1", 3);
        }
        Edges.takes(x, BridgesAreLent::river, "8;ab5:1;ba5:1", 2);
    }

    private static void place() {
        Doc.says(Doc.TERMS, "PLACE 0 .. 99 (how far down the river),");
        BridgesAreLent x = empty();
        String[] places = {"0", "00", "9", "09", "10", "99"};
        for (String place : places) {
            Edges.takes(x, BridgesAreLent::river, "2;ab" + place + ":1", 1);
            Check.due("place", x.crossing(0, 2), Integer.parseInt(place));
        }
        Edges.at(x, BridgesAreLent::river, "2;ab100:1", 6);
        Edges.at(x, BridgesAreLent::river, "2;ab000:1", 6);
        Edges.at(x, BridgesAreLent::river, "2;ab-1:1", 4);
    }

    private static void width() {
        Doc.says(Doc.TERMS, "WIDTH 1 .. 9.");
        BridgesAreLent x = empty();
        for (int width = 1; width <= 9; width++) {
            Edges.takes(x, BridgesAreLent::river, "2;ab5:" + width, 1);
            Check.due("width", x.crossing(0, 3), width);
        }
        Edges.at(x, BridgesAreLent::river, "2;ab5:0", 6);
        Edges.at(x, BridgesAreLent::river, "2;ab5:10", 7);
    }

    private static void riverText() {
        Doc.says(Doc.TERMS, "THE RIVER is told by a text of at most 72 signs: a digit 2 .. 8 (BANKS), then for each CROSSING a ;"
                + " two unlike letters (of BANKS), PLACE (1 or 2 digits), :, a digit 1 .. 9 (WIDTH).");
        BridgesAreLent x = empty();
        String longest = "8" + Check.times(";gh98:7", 10);
        Check.due("the longest river has 71 signs", longest.length(), 71);
        Edges.takes(x, BridgesAreLent::river, longest, 10);
        Check.due("its last crossing", x.crossing(9, 0) * 1000 + x.crossing(9, 1) * 100 + x.crossing(9, 3), 6707);
        Edges.takes(x, BridgesAreLent::river, "2", 0);
        // each part left out, and each told twice
        Edges.at(x, BridgesAreLent::river, ";gh98:7", 0);
        Edges.at(x, BridgesAreLent::river, "88;gh98:7", 1);
        Edges.at(x, BridgesAreLent::river, "8gh98:7", 1);
        Edges.at(x, BridgesAreLent::river, "8;;gh98:7", 2);
        Edges.at(x, BridgesAreLent::river, "8;98:7", 2);
        Edges.at(x, BridgesAreLent::river, "8;g98:7", 3);
        Edges.at(x, BridgesAreLent::river, "8;ghg98:7", 4);
        Edges.at(x, BridgesAreLent::river, "8;gh:7", 4);
        Edges.at(x, BridgesAreLent::river, "8;gh987", 6);
        Edges.at(x, BridgesAreLent::river, "8;gh98::7", 7);
        Edges.at(x, BridgesAreLent::river, "8;gh98:", 7);
    }

    private static void sixBridges() {
        Doc.says(Doc.TERMS, "BRIDGES 0 .. (at most 6):");
        BridgesAreLent x = Check.object(Check.RIVER, "", "");
        Edges.missing("no bridges", 0, -1, b -> x.bridge(b, 0));
        for (int n = 1; n <= 6; n++) {
            Edges.takes(x, BridgesAreLent::bridges, n + "0", 1);
            Check.due("bridges", x.count(2), n);
            Check.due("the last", x.bridge(n - 1, 0), n);
            Edges.missing("bridges", 0, n - 1, b -> x.bridge(b, 0));
        }
        Edges.at(x, BridgesAreLent::bridges, "70", 0);
        Check.due("six still", x.count(2), 6);
    }

    private static void lengthAndSound() {
        Doc.says(Doc.TERMS, "LENGTH 1 .. 9, SOUND 0 .. 9,");
        for (int length = 1; length <= 9; length++) {
            for (int sound = 0; sound <= 9; sound++) {
                BridgesAreLent x = Check.object(Check.RIVER, "" + length + sound, "");
                Check.due("length and sound", x.bridge(0, 0) * 10 + x.bridge(0, 1), length * 10 + sound);
            }
        }
        Edges.at(empty(), BridgesAreLent::bridges, "05", 0);
        Edges.at(empty(), BridgesAreLent::bridges, "109", 2);
    }

    private static void shed() {
        Doc.says(Doc.TERMS, "in THE SHED (at first, at PLACE 0),");
        BridgesAreLent x = Check.object("2;ab0:1;ab1:1;ab97:1", SIX_BRIDGES, "");
        Check.due("all in the shed at first", x.count(5), 63);
        Check.due("no crossing", x.bridge(5, 2), NONE);
        Check.due("no hours yet", x.bridge(5, 3), 0);
        Check.rule(x, "d+u*50+1");
        Check.due("to place 0", x.takes(0, 0), 1);
        Check.due("to place 1", x.takes(0, 1), 2);
        Check.due("to place 97", x.takes(0, 2), 98);
        x.tow(0, 0);
        x.hours(1);
        Check.due("from place 0 to the shed, not up the river", x.takes(0, NONE), 1);
        x.tow(1, 1);
        x.hours(2);
        Check.due("from place 1 to the shed, up the river", x.takes(1, NONE), 52);
    }

    private static void atCrossing() {
        Doc.says(Doc.TERMS, "or at a CROSSING (WIDTH no more than LENGTH; one BRIDGE at each at most),");
        for (int width = 1; width <= 9; width++) {
            for (int length = 1; length <= 9; length++) {
                BridgesAreLent x = Check.object("2;ab9:" + width, length + "5", "");
                Check.due("width " + width + ", length " + length, x.tow(0, 0), width <= length ? 2 : -3);
            }
        }
        BridgesAreLent x = Check.laid("2;ab1:1;ab2:1", "19;19", "", 0);
        Check.refused("a second one where one is", x, () -> x.tow(1, 0), -4);
        Check.due("one there", x.crossing(0, 4), 0);
        Check.due("not open at the other", x.crossing(1, 4), NONE);
    }

    private static void towed() {
        Doc.says(Doc.TERMS, "or towed to one or to THE SHED (HOURS yet, 1 and more; no other one can be at a CROSSING then, or be"
                + " towed there).");
        BridgesAreLent x = Check.laid("2;ab1:1;ab2:1;ab3:1", "19;19;19", "", 0, 1);
        Check.rule(x, "0");
        Check.due("an hour at the least", x.tow(0, 2), 1);
        Check.due("hours yet", x.bridge(0, 3), 1);
        Check.refused("one that is towed there", x, () -> x.tow(1, 2), -4);
        Check.refused("one from the shed, too", x, () -> x.tow(2, 2), -4);
        Check.due("where it was is free", x.tow(2, 0), 1);
        x.hours(1);
        Check.due("both towed to the shed", x.tow(0, NONE), 1);
        Check.due("both towed to the shed at once", x.tow(1, NONE), 1);
        Check.due("towed to the shed, so not in it", x.count(5), 0);
        Check.due("towed to the shed", x.count(6), 3);
        x.hours(1);
        Check.due("in the shed", x.count(5), 3);
    }

    private static void bridgesText() {
        Doc.says(Doc.TERMS, "They are told by a text of at most 17 signs: LINES with ; between, each one more: two digits"
                + " (LENGTH 1 .. 9, SOUND).");
        Check.due("the longest text", SIX_BRIDGES.length(), 17);
        Edges.takes(empty(), BridgesAreLent::bridges, SIX_BRIDGES, 6);
        Edges.at(empty(), BridgesAreLent::bridges, SIX_BRIDGES + ";", 17);
        Edges.at(empty(), BridgesAreLent::bridges, "11;;22", 3);
        Edges.at(empty(), BridgesAreLent::bridges, "1122", 2);
        Edges.at(empty(), BridgesAreLent::bridges, ";11", 0);
        BridgesAreLent x = Check.object(Check.RIVER, "12;34", "");
        Edges.takes(x, BridgesAreLent::bridges, "56", 1);
        Check.due("each one more", x.count(2), 3);
        Check.due("the first stays", x.bridge(0, 0) * 10 + x.bridge(0, 1), 12);
        Check.due("the new one is the last", x.bridge(2, 0) * 10 + x.bridge(2, 1), 56);
    }

    private static void sixPeople() {
        Doc.says(Doc.TERMS, "PEOPLE 0 .. (at most 6): at a BANK, WEIGHT 1 .. 9.");
        BridgesAreLent x = Check.object(Check.RIVER, "", "");
        Edges.missing("no people", 0, -1, p -> x.person(p, 0));
        for (int n = 1; n <= 6; n++) {
            Edges.takes(x, BridgesAreLent::people, "d" + n, 1);
            Check.due("people", x.count(3), n);
            Check.due("the last", x.person(n - 1, 0) * 10 + x.person(n - 1, 1), 30 + n);
            Edges.missing("people", 0, n - 1, p -> x.person(p, 0));
        }
        Edges.at(x, BridgesAreLent::people, "d7", 0);
        BridgesAreLent y = Check.object(Check.RIVER, "", "");
        Edges.takes(y, BridgesAreLent::people, "a9;d1", 2);
        Check.due("the heaviest", y.person(0, 1), 9);
        Edges.at(y, BridgesAreLent::people, "a0", 1);
        Edges.at(y, BridgesAreLent::people, "a10", 2);
    }

    private static void peopleText() {
        Doc.says(Doc.TERMS, "They are told by a text of at most 17 signs: LINES with ; between, each one more: a letter (of a BANK),"
                + " a digit 1 .. 9 (WEIGHT).");
        Check.due("the longest text", SIX_PEOPLE.length(), 17);
        Edges.takes(Check.object("2", "", ""), BridgesAreLent::people, SIX_PEOPLE, 6);
        Edges.at(Check.object("2", "", ""), BridgesAreLent::people, SIX_PEOPLE + ";", 17);
        BridgesAreLent x = Check.object("2", "", "b3");
        Edges.at(x, BridgesAreLent::people, "a1;;a2", 3);
        Edges.at(x, BridgesAreLent::people, "a1a2", 2);
        Edges.at(x, BridgesAreLent::people, ";a1", 0);
        Edges.at(x, BridgesAreLent::people, "11", 0);
        Edges.takes(x, BridgesAreLent::people, "a2", 1);
        Check.due("the first stays", x.person(0, 0) * 10 + x.person(0, 1), 13);
        Check.due("the new one is the last", x.person(1, 0) * 10 + x.person(1, 1), 2);
    }

    private static void loans() {
        Doc.says(Doc.TERMS, "LOANS: a BRIDGE may be lent till an HOUR.");
        BridgesAreLent x = Check.object(Check.RIVER, Check.BRIDGES, "");
        Check.due("none is lent at first", x.bridge(0, 4), NONE);
        x.lend(0, 9);
        Check.due("lent till 9", x.bridge(0, 4), 9);
        Check.due("the others are not", x.count(7), 1);
        x.hours(8);
        Check.due("an hour ahead of it", x.bridge(0, 4), 9);
    }

    private static void anHour() {
        Doc.says(Doc.TERMS, "AN HOUR goes by: NOW is 1 more; those that are towed have an HOUR less yet (at 0 they are there);");
        BridgesAreLent x = Check.object("3;ab0:1;bc9:1", "19;19;19", "");
        x.tow(0, 0);
        x.tow(1, 1);
        Check.due("hours yet", x.bridge(0, 3) * 10 + x.bridge(1, 3), 12);
        Check.due("now", x.hours(1), 1);
        Check.due("an hour less", x.bridge(0, 3) * 10 + x.bridge(1, 3), 1);
        Check.due("at 0 it is there", x.crossing(0, 4), 0);
        Check.due("with an hour yet it is not there", x.crossing(1, 4), NONE);
        Check.due("one that is in the shed has none less", x.bridge(2, 3), 0);
        x.hours(1);
        Check.due("nor one that is there", x.bridge(0, 3), 0);
        Check.due("the other is there", x.crossing(1, 4), 1);
    }

    private static void loansEnd() {
        Doc.says(Doc.TERMS, "then those that are lent till NOW are lent no more, and, of each of these that is not in THE SHED,"
                + " a promise is BROKEN.");
        // at hour 4: 0 at a crossing, 1 comes to the shed just then, 2 comes there an hour later, 3 towed to a crossing, 4 in the shed
        BridgesAreLent x = Check.laid("2;ab1:1;ab2:1;ab3:1;ab4:1", "19;19;19;19;19;19", "", 0, 1, 2);
        Check.rule(x, "3*(b<2)+4*(b=2)+9*(b>2)");
        x.tow(1, NONE);
        x.tow(2, NONE);
        x.tow(3, 3);
        for (int b = 0; b < 5; b++) {
            x.lend(b, 4);
        }
        x.lend(5, 5);
        Check.due("an hour ahead of it", x, x.hours(2), 3, 0, 0);
        Check.due("all lent", x.count(7), 63);
        Check.due("then", x, x.hours(1), 4, 2, 0b01101);
        Check.due("lent no more", x.count(7), 32);
        Check.due("three broken", x.count(8), 3);
        Check.due("one lent till the next hour, in the shed", x, x.hours(1), 5, 4, 0);
        Check.due("three broken still", x.count(8), 3);
    }

    private static void row() {
        Doc.says(Doc.TERMS, "ROW: numbers told last by a call that says so.");
        BridgesAreLent x = Check.laid(Check.RIVER, Check.BRIDGES, "a4;c2", 1, 0);
        x.worst(0);
        Check.row("one number", x, 0);
        x.hours(0);
        Check.row("two numbers", x, 0, 0);
        x.soonest(0, 1);
        x.takes(0, 2);
        x.count(13);
        Check.row("calls that tell none leave it", x, 0, 0);
        x.route(0, 0);
        Check.row("none is told last", x);
        x.joined(0);
        Check.row("one again", x, 3);
    }

    private static void sets() {
        Doc.says(Doc.TERMS, "Sets (of BANKS, CROSSINGS, BRIDGES, PEOPLE) are bits.");
        BridgesAreLent x = Check.object("8" + Check.times(";gh1:1", 10), SIX_BRIDGES, "");
        Check.due("six bridges", x.count(5), 63);
        Check.due("the last bank, and one that is not", x, x.joins(0x80), 0, 0);
        Check.due("all crossings but four", x.lays(0b1111110000), 1);
        Check.due("the last crossing", x, x.lays(1 << 9), 1, 0);
        Check.refused("none such", x, () -> x.lays(1 << 10), NONE);
        x.tow(5, 9);
        x.hours(9);
        Check.due("the last two banks", x.joined(7), 0xC0);
        Check.due("the last crossing, flooded", x.flood(9), 1 << 9);
    }

    private static void leastRows() {
        Doc.says(Doc.TERMS, "Rows are compared from the first number on.");
        BridgesAreLent x = Check.laid("4;ab1:1;ac1:1;cd1:1;bd1:1", "19;19;19;19", "a1", 0, 1, 2, 3);
        Check.due("0 3 is less than 1 2", x, x.route(0, 3), 2, 0, 3);
        BridgesAreLent y = Check.object("2;ab1:1;ab2:2", "29;19;29", "");
        Check.due("0 2 is less than 1 0", y, y.lays(3), 1, 0, 2);
        BridgesAreLent z = Check.object("3;bc1:1;ab1:1;bc2:1", "19;19", "a1");
        Check.due("0 0 1 1 is less than 0 1 1 0", z, z.moves(0, 2), 2, 0, 0, 1, 1);
    }

    private static void fractions() {
        Doc.says(Doc.TERMS, "Fractions are told in lowest terms, upper and lower number (0 by 1).");
        BridgesAreLent x = Check.laid("2;ab1:1;ab2:1", "19", "", 0);
        Check.due("0 by 1", x, x.drift(0, 0, 12, 1), 0, 0, 1);
        Check.due("1 by 1", x, x.drift(0, 10, 12, 1), 0, 1, 1);
        Check.due("5 by 10", x, x.drift(0, 5, 1, 1), 0, 1, 2);
        Check.due("4 by 10", x, x.drift(0, 4, 1, 1), 0, 2, 5);
        Check.due("none can be left out", x, x.drift(0, 3, 1, 1), 0, 3, 10);
        Check.due("the greatest lower number", x, x.drift(0, 9, 12, 0), 0, 1, 1000000000000L);
        Check.due("by 2 to the 12th", x, x.drift(0, 5, 12, 0), 0, 1, 4096);
    }

    private static void open() {
        Doc.says(Doc.TERMS, "OPEN: a CROSSING at which a BRIDGE is (none that is towed there), for one of PEOPLE: whose SOUND is no"
                + " less than WEIGHT.");
        for (int sound = 0; sound <= 9; sound++) {
            for (int weight = 1; weight <= 9; weight++) {
                BridgesAreLent x = Check.laid("2;ab1:1", "1" + sound, "a" + weight, 0);
                Check.due("sound " + sound + ", weight " + weight, x.route(0, 1), sound >= weight ? 1 : -2);
            }
        }
        BridgesAreLent y = Check.object("2;ab9:1", "19", "a1");
        Check.due("no bridge", y.cross(0, 0), -3);
        y.tow(0, 0);
        Check.due("towed there", y.cross(0, 0), -3);
        y.hours(1);
        Check.due("an hour yet", y.route(0, 1), -2);
        y.hours(1);
        Check.due("there", y.route(0, 1), 1);
        y.tow(0, NONE);
        Check.due("towed away", y.route(0, 1), -2);
    }

    private static void joined() {
        Doc.says(Doc.TERMS, "JOINED: BANKS between which one can go by CROSSINGS that are OPEN for WEIGHT 0 (a BANK to itself, too).");
        BridgesAreLent x = Check.laid("3;ab1:1;bc1:1", "10;10", "a1", 0);
        Check.due("sound 0 is enough", x.joined(0), 3);
        Check.due("but not for one of people", x.route(0, 1), -2);
        Check.due("a bank to itself", x.joined(2), 4);
        x.tow(1, 1);
        Check.due("towed there", x.joined(2), 4);
        x.hours(1);
        Check.due("by two crossings", x.joined(2), 7);
    }

    private static void pairs() {
        Doc.says(Doc.TERMS, "PAIRS: of unlike BANKS that are JOINED, each counted once.");
        BridgesAreLent x = Check.laid("8;ab1:1;ba2:1;cd1:1;ef1:1;fg1:1;gh1:1", "19;19;19;19;19;19", "", 0);
        Check.due("two banks", x.count(13), 1);
        Check.rule(x, "1");
        x.tow(1, 1);
        x.hours(1);
        Check.due("joined twice, counted once", x.count(13), 1);
        for (int b = 2; b < 6; b++) {
            x.tow(b, b);
        }
        x.hours(1);
        Check.due("parts of 2, 2, 4 banks", x.count(13), 8);
        Check.due("parts that lie between one another", Check.laid("4;ac1:1;bd1:1", "19;19", "", 0, 1).count(13), 2);
        Check.due("by a bridge of sound 0", Check.laid("2;ab1:1", "10", "", 0).count(13), 1);
        BridgesAreLent z = Check.object("2;ab0:1", "19", "");
        z.tow(0, 0);
        Check.due("towed there, an hour yet", z.count(13), 0);
        Check.due("no banks", empty().count(13), 0);
        Check.due("no bridges", Check.object("8;ab1:1", "", "").count(13), 0);
        BridgesAreLent y = Check.laid("7;ab1:1;bc1:1;cd1:1;de1:1;ef1:1;fg1:1", "19;19;19;19;19;19", "", 0, 1, 2, 3, 4, 5);
        Check.due("seven banks in a line, the most", y.count(13), 21);
    }
}
