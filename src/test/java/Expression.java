/** THE RULE, reckoned by cutting its text where it binds least; slow, but nothing like what the class does. */
final class Expression {
    private Expression() {
    }

    private static final class Wrong extends Exception {
        private static final long serialVersionUID = 1L;
    }

    static boolean stands(String text) {
        try {
            value(text, new int[7], 0);
            return true;
        } catch (Wrong e) {
            return false;
        }
    }

    static int value(String text, int[] things) {
        try {
            return value(text, things, 0);
        } catch (Wrong e) {
            throw new IllegalArgumentException(text);
        }
    }

    /** Whether a text can go on, or end: some end makes it stand. */
    static boolean canGoOn(String text) {
        for (String end = ""; end.length() <= 4; end += ")") {
            if (stands(text + end) || stands(text + "1" + end)) {
                return true;
            }
        }
        return false;
    }

    private static int value(String text, int[] things, int depth) throws Wrong {
        int at = cut(text, "<>=");
        if (at >= 0) {
            String left = text.substring(0, at);
            if (cut(left, "<>=") >= 0) {
                throw new Wrong();
            }
            int a = value(left, things, depth);
            int b = value(text.substring(at + 1), things, depth);
            return switch (text.charAt(at)) {
                case '<' -> a < b ? 1 : 0;
                case '>' -> a > b ? 1 : 0;
                default -> a == b ? 1 : 0;
            };
        }
        at = cut(text, "+-");
        at = at >= 0 ? at : cut(text, "*/");
        if (at >= 0) {
            int a = value(text.substring(0, at), things, depth);
            int b = value(text.substring(at + 1), things, depth);
            return switch (text.charAt(at)) {
                case '+' -> a + b;
                case '-' -> a - b;
                case '*' -> a * b;
                default -> b == 0 ? 0 : (int) ((long) a / b);
            };
        }
        return thing(text, things, depth);
    }

    private static int thing(String text, int[] things, int depth) throws Wrong {
        if (text.startsWith("-")) {
            return -thing(text.substring(1), things, depth);
        }
        if (text.startsWith("(") && text.endsWith(")") && text.length() > 2 && depth < 4) {
            return value(text.substring(1, text.length() - 1), things, depth + 1);
        }
        if (text.matches("[0-9]{1,3}")) {
            return Integer.parseInt(text);
        }
        if (text.length() == 1 && "dulswbn".contains(text)) {
            return things["dulswbn".indexOf(text)];
        }
        throw new Wrong();
    }

    /** The last of some signs that stands between two things, in no ( ). */
    private static int cut(String text, String signs) throws Wrong {
        int deep = 0;
        int last = -1;
        for (int i = 0; i < text.length(); i++) {
            char sign = text.charAt(i);
            deep += sign == '(' ? 1 : sign == ')' ? -1 : 0;
            if (deep < 0) {
                throw new Wrong();
            }
            boolean behindThing = i > 0 && "<>=+-*/(".indexOf(text.charAt(i - 1)) < 0;
            if (deep == 0 && signs.indexOf(sign) >= 0 && (sign != '-' || behindThing)) {
                last = i;
            }
        }
        if (deep != 0) {
            throw new Wrong();
        }
        return last;
    }
}
