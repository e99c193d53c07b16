/** Promises 1 to 7: each bound that they name. */
final class EdgesOfTexts {
    private static final int NONE = BridgesAreLent.NONE;
    private static final String TEN = "2" + Check.times(";ab55:1", 10);
    private static final String SIX_BRIDGES = "11;12;13;14;15;16";
    private static final String SIX_PEOPLE = "a1;a2;a3;b4;b5;b6";

    private EdgesOfTexts() {
    }

    static void all() {
        newObject();
        fourSigns();
        howMany();
        moreThanEighty();
        firstSigns();
        notSoMany();
        belowNothing();
        riverAnew();
        noneOfIt();
        riverCantStand();
        riverEndsTooEarly();
        riverTooLong();
        riverNoBank();
        eleventhCrossing();
        tellsBridges();
        bridgesCantStand();
        bridgesEndTooEarly();
        bridgesNoRoom();
        bridgesTooLong();
        nothingOfIt();
        tellsPeople();
        peopleLikewise();
        peopleNoBank();
        ruleIs();
        ruleCantStand();
        ruleEndsTooEarly();
        ruleTooLong();
    }

    private static BridgesAreLent two() {
        return Check.object("2", "", "");
    }

    private static BridgesAreLent withBridges(int n) {
        return Check.object("2", n == 0 ? "" : SIX_BRIDGES.substring(0, 3 * n - 1), "");
    }

    private static BridgesAreLent withPeople(int n) {
        return Check.object("2", "", n == 0 ? "" : SIX_PEOPLE.substring(0, 3 * n - 1));
    }

    private static void newObject() {
        Doc.says(1, "No BANKS.");
        BridgesAreLent x = new BridgesAreLent();
        for (int what = 0; what <= 13; what++) {
            Check.due("count " + what, x.count(what), 0);
        }
        Check.due("no bank", x.joined(0), NONE);
        Edges.at(x, BridgesAreLent::people, "a1", 0);
        Edges.at(x, BridgesAreLent::errands, "ab", 0);
    }

    private static void fourSigns() {
        Doc.says(2, "Four signs come behind THE TEXT, of v the highest byte first:");
        BridgesAreLent x = new BridgesAreLent();
        x.sign(0x323B6162);
        x.sign(0x393A3700);
        x.end(7);
        Check.due("2;ab9:7", x.river(), 1);
        Check.due("place and width", x.crossing(0, 2) * 10 + x.crossing(0, 3), 97);
        x.sign(0x7FFFFFFF);
        x.sign(-1);
        x.sign(0x80000000);
        Check.due("signs of any byte", x.count(12), 12);
        Check.due("none that a river has", x.river(), -1);
        // 0xB2 and 0x132 are no 2, though their lowest bits are
        x.sign(0xB2000000);
        x.end(1);
        Check.due("byte 178", x.river(), -1);
    }

    private static void howMany() {
        Doc.says(2, "how many it has.");
        BridgesAreLent x = new BridgesAreLent();
        for (int n = 4; n <= 80; n += 4) {
            Check.due("signs", x.sign(0), n);
            Check.due("count", x.count(12), n);
        }
        for (int n = 0; n <= 76; n++) {
            BridgesAreLent y = Check.write(new BridgesAreLent(), Check.times("x", n));
            Check.due("behind " + n, y.sign(0), n + 4);
        }
    }

    private static void moreThanEighty() {
        Doc.says(2, "Refused: there would be more than 80.");
        for (int n = 76; n <= 80; n++) {
            BridgesAreLent x = Check.write(new BridgesAreLent(), "2;ab9:7" + Check.times("x", n - 7));
            Check.due("behind " + n, x.sign(0x32323232), n == 76 ? 80 : NONE);
            Check.due("signs", x.count(12), n == 76 ? 80 : n);
            x.end(7);
            Check.due("the signs stay", x.river(), 1);
        }
    }

    private static void firstSigns() {
        Doc.says(3, "THE TEXT has its first n signs alone: true;");
        for (int n = 0; n <= 8; n++) {
            BridgesAreLent x = Check.write(new BridgesAreLent(), "2;ab9:7;");
            Check.due("end of " + n, x.end(n), true);
            Check.due("signs", x.count(12), n);
            Check.due("the first ones", x.river(), n == 7 ? 1 : n == 1 ? 0 : -1 - n);
        }
        Check.due("of an empty one", new BridgesAreLent().end(0), true);
        BridgesAreLent y = Check.write(new BridgesAreLent(), Check.times("2", 80));
        Check.due("all 80", y.end(80), true);
        Check.due("80 signs", y.count(12), 80);
    }

    private static void notSoMany() {
        Doc.says(3, "false if it has not so many,");
        BridgesAreLent x = Check.write(new BridgesAreLent(), "2;ab9:7");
        for (int n : new int[] {8, 80, 81, Edges.GREATEST}) {
            Check.due("end of " + n, x.end(n), false);
            Check.due("signs stay", x.count(12), 7);
        }
        Check.due("as they were", x.river(), 1);
        Check.due("of an empty one", x.end(1), false);
    }

    private static void belowNothing() {
        Doc.says(3, "or n is below 0.");
        BridgesAreLent x = Check.write(new BridgesAreLent(), "2;ab9:7");
        for (int n : new int[] {-1, -7, Edges.LOWEST}) {
            Check.due("end of " + n, x.end(n), false);
            Check.due("signs stay", x.count(12), 7);
        }
        Check.due("as they were", x.river(), 1);
    }

    private static void riverAnew() {
        Doc.says(4, "THE TEXT is THE RIVER anew: how many CROSSINGS;");
        BridgesAreLent x = new BridgesAreLent();
        Edges.takes(x, BridgesAreLent::river, TEN, 10);
        Edges.takes(x, BridgesAreLent::river, "5;ae7:3", 1);
        Check.due("banks", x.count(0), 5);
        Check.due("crossings", x.count(1), 1);
        Edges.missing("crossings", 0, 0, c -> x.crossing(c, 0));
        Edges.takes(x, BridgesAreLent::river, "2", 0);
        Check.due("no crossings", x.count(1), 0);
        Edges.takes(x, BridgesAreLent::river, "2", 0);
    }

    private static void noneOfIt() {
        Doc.says(4, "there are no BRIDGES, no PEOPLE, NOW is 0, nothing can be undone, nothing is kept.");
        BridgesAreLent x = Check.laid(Check.RIVER, Check.BRIDGES, Check.PEOPLE, NONE, 0);
        for (int i = 0; i <= 2; i++) {
            x.keep(i);
        }
        x.lend(0, 9);
        x.tow(2, 2);
        x.hours(1);
        Edges.takes(x, BridgesAreLent::river, Check.RIVER, 4);
        for (int what = 2; what <= 7; what++) {
            Check.due("count " + what, x.count(what), 0);
        }
        Check.due("nothing can be undone", x.undo(), NONE);
        for (int i = 0; i <= 2; i++) {
            Check.due("nothing is kept under " + i, x.again(i), false);
        }
        Check.due("no bridge is there", x.crossing(0, 4), NONE);
        Check.due("none is towed there", x.crossing(2, 5), NONE);
        Check.bridges(x, Check.BRIDGES);
        Check.people(x, Check.PEOPLE);
        Check.due("nothing is kept, though as many came", x.again(0), false);
        Check.due("all in the shed", x.count(5), 7);
        Check.due("none is lent", x.count(7), 0);
        Check.due("none is towed", x.count(6), 0);
        Check.due("where people are told to be", x.person(0, 0) * 10 + x.person(1, 0), 2);
    }

    private static void riverCantStand() {
        Doc.says(4, "-1 - p: the sign at p can't stand there");
        Edges.Making made = () -> Check.object(Check.RIVER, Check.BRIDGES, Check.PEOPLE);
        String river = "3;ab12:3;bc4:5";
        for (int p = 0; p < river.length(); p++) {
            for (char wrong : new char[] {'.', 0, 255}) {
                Edges.at(made, BridgesAreLent::river, river.substring(0, p) + wrong + river.substring(p + 1), p);
                Edges.at(made, BridgesAreLent::river, river.substring(0, p) + wrong, p);
            }
        }
        Edges.at(made, BridgesAreLent::river, river + ".", river.length());
        String[][] some = {{"", "2345678"}, {"3", ";"}, {"3;", "abc"}, {"3;a", "bc"}, {"3;b", "ac"}, {"3;ab", Edges.DIGITS},
            {"3;ab1", Edges.DIGITS + ":"}, {"3;ab12", ":"}, {"3;ab12:", Edges.FROM_1}, {"3;ab12:3", ";"}, {TEN, ""}};
        for (String[] s : some) {
            Edges.signs(BridgesAreLent::new, BridgesAreLent::river, s[0], s[1]);
        }
    }

    private static void riverEndsTooEarly() {
        Doc.says(4, "(its end, if it ends too early;");
        for (int n = 0; n < TEN.length(); n++) {
            if (n % 7 == 1) {
                Edges.takes(new BridgesAreLent(), BridgesAreLent::river, TEN.substring(0, n), n / 7);
            } else {
                Edges.at(BridgesAreLent::new, BridgesAreLent::river, TEN.substring(0, n), n);
            }
        }
    }

    private static void riverTooLong() {
        Doc.says(4, "72, if it has more and the first 72 could go on or end;");
        // ten CROSSINGS have 71 signs at most, so no 72 signs can go on or end: an earlier sign is told
        BridgesAreLent x = new BridgesAreLent();
        Edges.takes(x, BridgesAreLent::river, TEN, 10);
        Edges.at(x, BridgesAreLent::river, TEN + ";", 71);
        Edges.at(x, BridgesAreLent::river, TEN + "11", 71);
        Edges.at(x, BridgesAreLent::river, TEN + Check.times(";", 9), 71);
        Edges.at(x, BridgesAreLent::river, TEN.substring(0, 64) + ".ab55:1;ab5:1", 64);
    }

    private static void riverNoBank() {
        Doc.says(4, "a letter of no BANK, or like the one ahead;");
        BridgesAreLent x = new BridgesAreLent();
        Edges.at(x, BridgesAreLent::river, "2;cb1:1", 2);
        Edges.at(x, BridgesAreLent::river, "2;ac1:1", 3);
        Edges.at(x, BridgesAreLent::river, "7;ah1:1", 3);
        Edges.at(x, BridgesAreLent::river, "8;ai1:1", 3);
        Edges.at(x, BridgesAreLent::river, "8;`a1:1", 2);
        Edges.at(x, BridgesAreLent::river, "8;a`1:1", 3);
        Edges.at(x, BridgesAreLent::river, "8;Ab1:1", 2);
        Edges.at(x, BridgesAreLent::river, "2;aa1:1", 3);
        Edges.at(x, BridgesAreLent::river, "8;hh1:1", 3);
        Edges.at(x, BridgesAreLent::river, "8;ab1:1;bb1:1", 9);
        Edges.takes(x, BridgesAreLent::river, "8;ab1:1;bc1:1", 2);
    }

    private static void eleventhCrossing() {
        Doc.says(4, "the ; of an eleventh CROSSING).");
        BridgesAreLent x = new BridgesAreLent();
        String ten = "2" + Check.times(";ab5:1", 10);
        Edges.takes(x, BridgesAreLent::river, ten, 10);
        Edges.at(x, BridgesAreLent::river, ten + ";", 61);
        Edges.at(x, BridgesAreLent::river, ten + ";ab5:1", 61);
        Edges.at(x, BridgesAreLent::river, ten + ";ab55:1", 61);
        Edges.at(x, BridgesAreLent::river, ten + "x", 61);
    }

    private static void tellsBridges() {
        Doc.says(5, "THE TEXT tells of BRIDGES (an empty one: nothing): how many LINES.");
        BridgesAreLent x = withBridges(0);
        Edges.takes(x, BridgesAreLent::bridges, "", 0);
        Check.due("none", x.count(2), 0);
        Edges.takes(x, BridgesAreLent::bridges, "90", 1);
        Edges.takes(x, BridgesAreLent::bridges, "", 0);
        Check.due("one", x.count(2), 1);
        Edges.takes(x, BridgesAreLent::bridges, "19;28;37;46;55", 5);
        Check.due("six", x.count(2), 6);
        Check.due("the sixth", x.bridge(5, 0) * 10 + x.bridge(5, 1), 55);
        Edges.takes(x, BridgesAreLent::bridges, "", 0);
    }

    private static void bridgesCantStand() {
        Doc.says(5, "-1 - p: the sign at p can't stand there");
        String lines = "12;34";
        for (int p = 0; p < lines.length(); p++) {
            for (char wrong : new char[] {'.', 0, 255, 'a'}) {
                Edges.at(withBridges(1), BridgesAreLent::bridges, lines.substring(0, p) + wrong + lines.substring(p + 1), p);
            }
        }
        Edges.at(withBridges(1), BridgesAreLent::bridges, "123", 2);
        Edges.at(withBridges(1), BridgesAreLent::bridges, "02", 0);
        Edges.at(withBridges(1), BridgesAreLent::bridges, "12;02", 3);
        String[][] some = {{"", Edges.FROM_1}, {"1", Edges.DIGITS}, {"12", ";"}, {"12;", Edges.FROM_1}};
        for (String[] s : some) {
            Edges.signs(() -> withBridges(1), BridgesAreLent::bridges, s[0], s[1]);
        }
    }

    private static void bridgesEndTooEarly() {
        Doc.says(5, "(its end, if it ends too early;");
        for (int n = 1; n < SIX_BRIDGES.length(); n++) {
            String text = SIX_BRIDGES.substring(0, n);
            if (n % 3 == 2) {
                Edges.takes(withBridges(0), BridgesAreLent::bridges, text, n / 3 + 1);
            } else {
                Edges.at(withBridges(0), BridgesAreLent::bridges, text, n);
            }
        }
    }

    private static void bridgesNoRoom() {
        Doc.says(5, "the first sign of a LINE for which there is no room;");
        for (int there = 0; there <= 6; there++) {
            int room = 6 - there;
            String lines = Check.times("77;", room);
            if (room > 0) {
                Edges.takes(withBridges(there), BridgesAreLent::bridges, lines.substring(0, 3 * room - 1), room);
                Edges.takes(withBridges(there), BridgesAreLent::bridges, "77", 1);
            }
            if (there > 0) {
                Edges.at(withBridges(there), BridgesAreLent::bridges, lines + "77", 3 * room);
                Edges.at(withBridges(there), BridgesAreLent::bridges, lines + "0", 3 * room);
                Edges.at(withBridges(there), BridgesAreLent::bridges, lines + "77;77", 3 * room);
            }
        }
        Edges.at(withBridges(5), BridgesAreLent::bridges, "77;", 3);
        Edges.at(withBridges(5), BridgesAreLent::bridges, "7;77", 1);
        Edges.signs(() -> withBridges(5), BridgesAreLent::bridges, "77;", "");
        Edges.signs(() -> withBridges(6), BridgesAreLent::bridges, "", "");
    }

    private static void bridgesTooLong() {
        Doc.says(5, "17, if it has more and the first 17 could go on or end).");
        Edges.takes(withBridges(0), BridgesAreLent::bridges, SIX_BRIDGES, 6);
        Edges.at(withBridges(0), BridgesAreLent::bridges, SIX_BRIDGES + ";", 17);
        Edges.at(withBridges(0), BridgesAreLent::bridges, SIX_BRIDGES + ";11", 17);
        Edges.at(withBridges(0), BridgesAreLent::bridges, SIX_BRIDGES + "x", 17);
        Edges.at(withBridges(0), BridgesAreLent::bridges, SIX_BRIDGES + Check.times("1", 63), 17);
        Edges.signs(() -> withBridges(0), BridgesAreLent::bridges, SIX_BRIDGES, "");
        Edges.at(withBridges(0), BridgesAreLent::bridges, "11;12;13;14;15;1x;", 16);
        Edges.at(withBridges(1), BridgesAreLent::bridges, SIX_BRIDGES + ";", 15);
    }

    private static void nothingOfIt() {
        Doc.says(5, "Nothing of it comes, if a LINE can't.");
        BridgesAreLent x = withBridges(3);
        for (String text : new String[] {"77;88;99;11", "77;88;0", "77;88;9", "77;88;", "77x"}) {
            Check.bridges(x, text);
            Check.due(text + ": bridges", x.count(2), 3);
            Edges.missing(text, 0, 2, b -> x.bridge(b, 0));
            Check.due(text + ": in the shed", x.count(5), 7);
        }
        Edges.takes(x, BridgesAreLent::bridges, "45", 1);
        Check.due("the next that comes", x.bridge(3, 0) * 10 + x.bridge(3, 1), 45);
    }

    private static void tellsPeople() {
        Doc.says(6, "THE TEXT tells of PEOPLE (an empty one: nothing): how many LINES.");
        BridgesAreLent x = withPeople(0);
        Edges.takes(x, BridgesAreLent::people, "", 0);
        Check.due("none", x.count(3), 0);
        Edges.takes(x, BridgesAreLent::people, "b9", 1);
        Edges.takes(x, BridgesAreLent::people, "", 0);
        Check.due("one", x.count(3), 1);
        Edges.takes(x, BridgesAreLent::people, "a1;b2;a3;b4;b5", 5);
        Check.due("six", x.count(3), 6);
        Check.due("the sixth", x.person(5, 0) * 10 + x.person(5, 1), 15);
        Edges.takes(x, BridgesAreLent::people, "", 0);
    }

    private static void peopleLikewise() {
        Doc.says(6, "-1 - p: likewise");
        for (int n = 1; n < SIX_PEOPLE.length(); n++) {
            String text = SIX_PEOPLE.substring(0, n);
            if (n % 3 == 2) {
                Edges.takes(withPeople(0), BridgesAreLent::people, text, n / 3 + 1);
            } else {
                Edges.at(withPeople(0), BridgesAreLent::people, text, n);
            }
            Edges.at(withPeople(0), BridgesAreLent::people, text + ".", n);
        }
        for (int there = 1; there <= 6; there++) {
            int room = 6 - there;
            Edges.at(withPeople(there), BridgesAreLent::people, Check.times("a7;", room) + "a7", 3 * room);
            Edges.at(withPeople(there), BridgesAreLent::people, Check.times("a7;", room) + "x", 3 * room);
        }
        Edges.at(withPeople(5), BridgesAreLent::people, "a7;", 3);
        Edges.signs(() -> withPeople(6), BridgesAreLent::people, "", "");
        String[][] some = {{"", "ab"}, {"a", Edges.FROM_1}, {"a1", ";"}, {"a1;", "ab"}};
        for (String[] s : some) {
            Edges.signs(() -> withPeople(1), BridgesAreLent::people, s[0], s[1]);
        }
        Edges.at(withPeople(1), BridgesAreLent::people, "a0", 1);
        Edges.at(withPeople(1), BridgesAreLent::people, "a12", 2);
        BridgesAreLent x = withPeople(3);
        Check.people(x, "a7;b8;a");
        Check.due("nothing of it comes", x.count(3), 3);
        Check.people(x, "b9");
        Check.due("the next that comes", x.person(3, 0) * 10 + x.person(3, 1), 19);
    }

    private static void peopleNoBank() {
        Doc.says(6, "(a letter of no BANK: at it; 17 signs).");
        Edges.at(two(), BridgesAreLent::people, "c1", 0);
        Edges.at(two(), BridgesAreLent::people, "`1", 0);
        Edges.at(two(), BridgesAreLent::people, "B1", 0);
        Edges.at(two(), BridgesAreLent::people, "a1;c1", 3);
        Edges.takes(two(), BridgesAreLent::people, "a1;b1", 2);
        Edges.takes(Check.object("8", "", ""), BridgesAreLent::people, "h1", 1);
        Edges.at(Check.object("8", "", ""), BridgesAreLent::people, "i1", 0);
        Edges.takes(two(), BridgesAreLent::people, SIX_PEOPLE, 6);
        Edges.at(two(), BridgesAreLent::people, SIX_PEOPLE + ";", 17);
        Edges.at(two(), BridgesAreLent::people, SIX_PEOPLE + ";a1", 17);
        Edges.at(two(), BridgesAreLent::people, SIX_PEOPLE + "x", 17);
        Edges.at(two(), BridgesAreLent::people, "a1;a2;a3;b4;b5;b0;", 16);
        Edges.at(withPeople(1), BridgesAreLent::people, SIX_PEOPLE + ";", 15);
    }

    private static BridgesAreLent ruled() {
        BridgesAreLent x = Check.object(Check.RIVER, Check.BRIDGES, "");
        Check.rule(x, "77");
        return x;
    }

    private static void ruleIs() {
        Doc.says(7, "THE TEXT is THE RULE (an empty one: none): 0.");
        BridgesAreLent x = ruled();
        Check.due("told", x.takes(0, 1), 77);
        Edges.takes(x, BridgesAreLent::rule, "d", 0);
        Check.due("told anew", x.takes(0, 1), 30);
        Edges.takes(x, BridgesAreLent::rule, "", 0);
        Check.due("none: as at first", x.takes(0, 1), 4);
        Edges.takes(x, BridgesAreLent::rule, "", 0);
        Check.due("none still", x.takes(0, 1), 4);
        for (String rule : new String[] {"-1", "-1", "9", "8+1", "9", "-(-9)", "9"}) {
            Edges.takes(x, BridgesAreLent::rule, rule, 0);
            Check.due("nothing of those ahead is left in " + rule, x.takes(0, 1), rule.equals("-1") ? 1 : 9);
        }
        Edges.takes(new BridgesAreLent(), BridgesAreLent::rule, "d", 0);
    }

    private static void ruleCantStand() {
        Doc.says(7, "-1 - p: the sign at p can't stand there");
        String rule = "(d+12)*-u<3";
        for (int p = 0; p < rule.length(); p++) {
            for (char wrong : new char[] {'.', 0, 255, 'a', ';', ' '}) {
                Edges.at(ruled(), BridgesAreLent::rule, rule.substring(0, p) + wrong + rule.substring(p + 1), p);
            }
        }
        Edges.at(ruled(), BridgesAreLent::rule, rule + ".", rule.length());
        Edges.at(ruled(), BridgesAreLent::rule, rule + "<1", rule.length());
        String first = Edges.DIGITS + "-(dulswbn";
        String more = "+-*/<>=";
        String[][] some = {{"", first}, {"1", Edges.DIGITS + more}, {"12", Edges.DIGITS + more}, {"123", more}, {"d", more},
            {"-", first}, {"--", first}, {"1+", first}, {"1-", first}, {"1*", first}, {"1/", first}, {"1<", first}, {"1=", first},
            {"d<u", "+-*/"}, {"d<u+l", "+-*/"}, {"(", first}, {"(d", more + ")"}, {"(d<u", "+-*/)"}, {"(d)", more},
            {"((((", Edges.DIGITS + "-dulswbn"}, {"((((d", more + ")"}, {"((((d)", more + ")"}, {"d<(u", more + ")"}, {"d<(u)", "+-*/"},
            {Check.times("1+", 19) + "d", more}, {Check.times("1+", 20), ""}};
        for (String[] s : some) {
            Edges.signs(EdgesOfTexts::ruled, BridgesAreLent::rule, s[0], s[1]);
        }
        BridgesAreLent x = ruled();
        Check.rule(x, "5+5+");
        Check.due("the rule ahead of it stays", x.takes(0, 1), 77);
    }

    private static void ruleEndsTooEarly() {
        Doc.says(7, "(its end, if it ends too early;");
        String rule = "-((d+12)*u)<l";
        String ends = "0000000000101";
        for (int n = 1; n <= rule.length(); n++) {
            String text = rule.substring(0, n);
            if (ends.charAt(n - 1) == '1') {
                Edges.takes(ruled(), BridgesAreLent::rule, text, 0);
            } else {
                Edges.at(ruled(), BridgesAreLent::rule, text, n);
            }
        }
        Edges.at(ruled(), BridgesAreLent::rule, Check.times("1+", 20), 40);
        Edges.at(ruled(), BridgesAreLent::rule, "(" + Check.times("1+", 19) + "1", 40);
    }

    private static void ruleTooLong() {
        Doc.says(7, "40, if it has more and the first 40 could go on or end).");
        String ends = Check.times("1+", 19) + "11";
        String goesOn = Check.times("1+", 20);
        Edges.takes(ruled(), BridgesAreLent::rule, ends, 0);
        Edges.at(ruled(), BridgesAreLent::rule, ends + "1", 40);
        Edges.at(ruled(), BridgesAreLent::rule, ends + "x", 40);
        Edges.at(ruled(), BridgesAreLent::rule, goesOn + "1", 40);
        Edges.at(ruled(), BridgesAreLent::rule, goesOn + "x", 40);
        Edges.at(ruled(), BridgesAreLent::rule, goesOn + goesOn, 40);
        Edges.at(ruled(), BridgesAreLent::rule, Check.times("1+", 19) + "1x1", 39);
        Edges.at(ruled(), BridgesAreLent::rule, Check.times("1+", 19) + "+11", 38);
    }
}
