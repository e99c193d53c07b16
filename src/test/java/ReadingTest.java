import java.util.Random;
import java.util.function.Predicate;
import java.util.regex.Matcher;
import java.util.regex.Pattern;

/** Promises 4 to 7, 17, 27: at which sign a text can't go on, for texts drawn by a seed, against patterns. */
public final class ReadingTest {
    private static final String ACT = "(?:t[0-9][0-9-]|l[0-9][0-9]{1,3}|c[a-f][0-9]|h[0-9]{1,2})";

    private final Random random = new Random(7);

    public static void main(String[] args) {
        ReadingTest test = new ReadingTest();
        for (int i = 0; i < 3000; i++) {
            test.rivers();
            test.lines(true);
            test.lines(false);
            test.days();
            test.errands();
            test.rules();
        }
        Check.finish();
    }

    private static boolean viable(Pattern pattern, String text) {
        Matcher matcher = pattern.matcher(text);
        return matcher.matches() || matcher.hitEnd();
    }

    /** Where a text of at most so many signs can't go on, or NONE. */
    private static int bad(String text, int most, Predicate<String> canGoOn, Predicate<String> canEnd) {
        for (int p = 0; p < text.length() && p < most; p++) {
            if (!canGoOn.test(text.substring(0, p + 1))) {
                return p;
            }
        }
        if (text.length() > most) {
            return most;
        }
        return canEnd.test(text) ? BridgesAreLent.NONE : text.length();
    }

    private static int bad(String text, int most, String goesOn, String ends) {
        Pattern pattern = Pattern.compile(goesOn, Pattern.DOTALL);
        return bad(text, most, part -> viable(pattern, part), part -> part.matches(ends));
    }

    /** Some parts one behind the other, then perhaps a sign put, left out or changed. */
    private String draw(int parts, String between, String... kinds) {
        StringBuilder text = new StringBuilder();
        for (int i = 0; i < parts; i++) {
            text.append(i > 0 ? between : "");
            String kind = kinds[random.nextInt(kinds.length)];
            for (int j = 0; j < kind.length(); j++) {
                char sign = kind.charAt(j);
                text.append(sign == '#' ? (char) ('1' + random.nextInt(9))
                        : sign == '@' ? (char) ('a' + random.nextInt(3)) : sign);
            }
        }
        return text.toString();
    }

    private String spoil(String text, String signs) {
        if (random.nextInt(3) == 0) {
            return text;
        }
        int at = random.nextInt(text.length() + 1);
        String sign = "" + signs.charAt(random.nextInt(signs.length()));
        String rest = text.substring(at);
        String spoilt = switch (random.nextInt(4)) {
            case 0 -> text.substring(0, at) + sign + rest;
            case 1 -> text.substring(0, at) + (rest.isEmpty() ? "" : rest.substring(1));
            case 2 -> text.substring(0, at) + (rest.isEmpty() ? "" : sign + rest.substring(1));
            default -> text.substring(0, at);
        };
        return spoilt.length() > 80 ? spoilt.substring(0, 80) : spoilt;
    }

    private static void compare(String what, String text, BridgesAreLent x, Check.Call read, int bad) {
        Check.write(x, text);
        String before = Check.sight(x);
        long got = read.answer();
        Check.due(what + " '" + text + "': refused at", got < 0 ? -1 - got : BridgesAreLent.NONE, bad);
        Check.due(what + " '" + text + "': the text", x.count(12), 0);
        if (bad != BridgesAreLent.NONE) {
            Check.due(what + " '" + text + "' changes something", Check.sight(x), before);
        }
    }

    private static String pairOf(int banks) {
        StringBuilder pattern = new StringBuilder("(?:");
        for (char one = 'a'; one < 'a' + banks; one++) {
            for (char other = 'a'; other < 'a' + banks; other++) {
                pattern.append(one == other ? "" : "|" + one + other);
            }
        }
        return pattern.append(")").toString().replace("(?:|", "(?:");
    }

    private static final String RIVER = riverPattern();

    private static String riverPattern() {
        StringBuilder pattern = new StringBuilder("(?:2(?:;" + pairOf(2) + "[0-9]{1,2}:[1-9]){0,10}");
        for (int banks = 3; banks <= 8; banks++) {
            pattern.append("|").append(banks).append("(?:;").append(pairOf(banks)).append("[0-9]{1,2}:[1-9]){0,10}");
        }
        return pattern.append(")").toString();
    }

    private void rivers() {
        String text = "3";
        for (int c = random.nextInt(12); c > 0; c--) {
            text += ";" + "ab,ba,ac,ca,bc,cb".split(",")[random.nextInt(6)];
            text += draw(1, "", "#:#", "##:#", "0#:#");
        }
        text = spoil(text.substring(0, Math.min(80, text.length())), "23489abcdh;:05");
        BridgesAreLent x = new BridgesAreLent();
        compare("river", text, x, x::river, bad(text, 72, RIVER, RIVER));
    }

    private void lines(boolean bridges) {
        String text = draw(random.nextInt(8), ";", bridges ? "##" : "@#");
        text = spoil(text, bridges ? "0159;a" : "0159;abcd");
        int had = random.nextInt(7);
        int room = 6 - had;
        String line = bridges ? "[1-9][0-9]" : "[a-c][1-9]";
        String lines = room == 0 ? "" : "(?:" + line + "(?:;" + line + "){0," + (room - 1) + "})?";
        String goesOn = room == 0 ? "" : lines + "(?:(?<=[0-9]);)?";
        BridgesAreLent x = Check.object("3", "", "");
        String first = draw(had, ";", bridges ? "##" : "@#");
        Check.due("lines ahead", bridges ? Check.bridges(x, first) : Check.people(x, first), had);
        compare("lines behind " + had, text, x, bridges ? x::bridges : x::people, bad(text, 17, goesOn, lines));
    }

    private void days() {
        String text = draw(random.nextInt(25), ";", "t##", "t#-", "l##", "l###", "l####", "c@#", "h#", "h##");
        text = spoil(text.substring(0, Math.min(80, text.length())), "tlch05afg;-");
        String days = "(?:" + ACT + "(?:;" + ACT + ")*)?";
        BridgesAreLent x = new BridgesAreLent();
        compare("day", text, x, x::day, bad(text, 60, days, days));
    }

    private void errands() {
        String text = spoil(draw(random.nextInt(10), ",", "ab", "ba", "ac", "bc", "cb"), "abcd,;");
        String pair = pairOf(3);
        String all = pair + "(?:," + pair + "){0,7}";
        BridgesAreLent x = Check.object("3;ab1:1;bc1:1;ca1:1", "11;11;11", "");
        compare("errands", text, x, x::errands, bad(text, 80, all + ",?", all));
    }

    private void rules() {
        String text = random.nextBoolean() ? expression(3) : draw(random.nextInt(40), "", "#", "##", "d", "(", ")", "-", "+", "<");
        text = spoil(text.substring(0, Math.min(80, text.length())), "0dulswbn()<>=+-*/x");
        int bad = text.isEmpty() ? BridgesAreLent.NONE : bad(text, 40, Expression::canGoOn, Expression::stands);
        BridgesAreLent x = Check.object(Check.RIVER, Check.BRIDGES, "");
        compare("rule", text, x, x::rule, bad);
        if (bad == BridgesAreLent.NONE) {
            World w = World.of(x, text);
            Check.due("hours by " + text, x.takes(0, 1), w.takes(0, 1));
        }
    }

    private String expression(int depth) {
        String things = "dulswbn";
        return switch (random.nextInt(depth > 0 ? 7 : 2)) {
            case 0 -> "" + random.nextInt(1000);
            case 1 -> "" + things.charAt(random.nextInt(7));
            case 2 -> "-" + expression(depth - 1);
            case 3, 4 -> expression(depth - 1) + "+-*/<>=".charAt(random.nextInt(7)) + expression(depth - 1);
            default -> "(" + expression(depth - 1) + "+-*/<>=".charAt(random.nextInt(7)) + expression(depth - 1) + ")";
        };
    }
}
