import java.math.BigInteger;
import java.util.ArrayList;
import java.util.Arrays;
import java.util.List;

/** What an object shows of itself, and what the document asks then, found by trying everything. */
final class World {
    static final int NONE = BridgesAreLent.NONE;

    int banks;
    int crossings;
    int bridges;
    int people;
    int now;
    int broken;
    int[][] crossing;
    int[] length;
    int[] sound;
    int[] where;
    int[] yet;
    int[] till;
    int[] bank;
    int[] weight;
    String rule = "";

    /** The ROW that is due, behind an answer that tells one. */
    long[] row;

    static World of(BridgesAreLent x, String rule) {
        World w = new World();
        w.rule = rule;
        w.banks = x.count(0);
        w.crossings = x.count(1);
        w.bridges = x.count(2);
        w.people = x.count(3);
        w.now = x.count(4);
        w.broken = x.count(8);
        w.crossing = new int[w.crossings][4];
        for (int c = 0; c < w.crossings; c++) {
            for (int what = 0; what < 4; what++) {
                w.crossing[c][what] = x.crossing(c, what);
            }
        }
        int[][] of = new int[5][w.bridges];
        for (int b = 0; b < w.bridges; b++) {
            for (int what = 0; what < 5; what++) {
                of[what][b] = x.bridge(b, what);
            }
        }
        w.length = of[0];
        w.sound = of[1];
        w.where = of[2];
        w.yet = of[3];
        w.till = of[4];
        w.bank = new int[w.people];
        w.weight = new int[w.people];
        for (int p = 0; p < w.people; p++) {
            w.bank[p] = x.person(p, 0);
            w.weight[p] = x.person(p, 1);
        }
        return w;
    }

    World copy() {
        World w = new World();
        w.rule = rule;
        w.banks = banks;
        w.crossings = crossings;
        w.bridges = bridges;
        w.people = people;
        w.now = now;
        w.broken = broken;
        w.crossing = crossing;
        w.length = length.clone();
        w.sound = sound.clone();
        w.where = where.clone();
        w.yet = yet.clone();
        w.till = till.clone();
        w.bank = bank.clone();
        w.weight = weight.clone();
        return w;
    }

    /** As Check.things() says it. */
    String things() {
        StringBuilder all = new StringBuilder();
        for (int b = 0; b < bridges; b++) {
            all.append("| bridge ").append(length[b]).append(' ').append(sound[b]).append(' ').append(where[b]);
            all.append(' ').append(yet[b]).append(' ').append(till[b]);
        }
        for (int p = 0; p < people; p++) {
            all.append("| person ").append(bank[p]).append(' ').append(weight[p]);
        }
        return all.append("| now ").append(now).append(" broken ").append(broken).toString();
    }

    private long tells(long answer, long... numbers) {
        row = numbers;
        return answer;
    }

    // ---- deeds

    int byRule(int b, int c) {
        int from = where[b] == NONE ? 0 : crossing[where[b]][2];
        int to = c == NONE ? 0 : crossing[c][2];
        int w = c == NONE ? 0 : crossing[c][3];
        int[] things = {from > to ? from - to : to - from, to < from ? 1 : 0, length[b], sound[b], w, b, now % 24};
        int hours = Expression.value(rule.isEmpty() ? "d/9+u*2+1" : rule, things);
        return hours < 1 ? 1 : hours > 99 ? 99 : hours;
    }

    long takes(int b, int c) {
        if (b < 0 || b >= bridges || c < NONE || c >= crossings) {
            return NONE;
        }
        if (yet[b] != 0 || where[b] == c) {
            return -2;
        }
        if (c != NONE && length[b] < crossing[c][3]) {
            return -3;
        }
        for (int other = 0; other < bridges; other++) {
            if (c != NONE && other != b && where[other] == c) {
                return -4;
            }
        }
        return byRule(b, c);
    }

    long tow(int b, int c) {
        long hours = takes(b, c);
        if (hours > 0) {
            where[b] = c;
            yet[b] = (int) hours;
        }
        return hours;
    }

    long lend(int b, int hour) {
        if (b < 0 || b >= bridges) {
            return -3;
        }
        if (hour != NONE && (hour <= now || hour > 999999)) {
            return -2;
        }
        int was = till[b];
        till[b] = hour;
        return was;
    }

    long cross(int p, int c) {
        if (p < 0 || p >= people || c < 0 || c >= crossings) {
            return NONE;
        }
        if (crossing[c][0] != bank[p] && crossing[c][1] != bank[p]) {
            return -2;
        }
        for (int b = 0; b < bridges; b++) {
            if (where[b] == c && yet[b] == 0 && sound[b] >= weight[p]) {
                sound[b] -= sound[b] == weight[p] ? 1 : 0;
                bank[p] = crossing[c][0] + crossing[c][1] - bank[p];
                return bank[p];
            }
        }
        return -3;
    }

    long hours(int n) {
        if (n < 0 || n > 99) {
            return NONE;
        }
        long came = 0;
        long failed = 0;
        for (int end = now + n; now < end;) {
            now++;
            for (int b = 0; b < bridges; b++) {
                if (yet[b] == 1) {
                    came |= 1L << b;
                }
                yet[b] = Math.max(0, yet[b] - 1);
                if (till[b] == now) {
                    till[b] = NONE;
                    if (where[b] != NONE || yet[b] != 0) {
                        broken++;
                        failed |= 1L << b;
                    }
                }
            }
        }
        return tells(now, came, failed);
    }

    /** A DAY that can be read. */
    long day(String text) {
        String[] acts = text.isEmpty() ? new String[0] : text.split(";");
        int brokenBefore = broken;
        int done = 0;
        for (String act : acts) {
            int first = act.charAt(1) >= 'a' ? act.charAt(1) - 'a' : act.charAt(1) - '0';
            String rest = act.substring(2);
            boolean refused;
            switch (act.charAt(0)) {
                case 't' -> refused = tow(first, rest.equals("-") ? NONE : Integer.parseInt(rest)) < 0;
                case 'l' -> refused = lend(first, now + Integer.parseInt(rest)) < NONE;
                case 'c' -> refused = cross(first, Integer.parseInt(rest)) < 0;
                default -> refused = hours(Integer.parseInt(act.substring(1))) < 0;
            }
            if (refused) {
                return tells(done, 1, broken - brokenBefore);
            }
            done++;
        }
        return tells(done, 0, broken - brokenBefore);
    }

    // ---- who can go where

    /** Who gets from where to where by CROSSINGS told as bits. */
    boolean[][] ways(int open) {
        boolean[][] way = new boolean[banks][banks];
        for (int i = 0; i < banks; i++) {
            way[i][i] = true;
        }
        for (int c = 0; c < crossings; c++) {
            if ((open >> c & 1) == 1) {
                way[crossing[c][0]][crossing[c][1]] = true;
                way[crossing[c][1]][crossing[c][0]] = true;
            }
        }
        for (int k = 0; k < banks; k++) {
            for (int i = 0; i < banks; i++) {
                for (int j = 0; j < banks; j++) {
                    way[i][j] |= way[i][k] && way[k][j];
                }
            }
        }
        return way;
    }

    int pairs(int open) {
        boolean[][] way = ways(open);
        int pairs = 0;
        for (int i = 0; i < banks; i++) {
            for (int j = i + 1; j < banks; j++) {
                pairs += way[i][j] ? 1 : 0;
            }
        }
        return pairs;
    }

    int open(int load) {
        int open = 0;
        for (int b = 0; b < bridges; b++) {
            open |= where[b] != NONE && yet[b] == 0 && sound[b] >= load ? 1 << where[b] : 0;
        }
        return open;
    }

    private List<Integer> best;

    private void walk(int at, int to, int open, int seen, List<Integer> way) {
        if (at == to) {
            if (best == null || way.size() < best.size() || way.size() == best.size() && less(way, best)) {
                best = new ArrayList<>(way);
            }
            return;
        }
        for (int c = 0; c < crossings; c++) {
            if ((open >> c & 1) == 1 && (crossing[c][0] == at || crossing[c][1] == at)) {
                int next = crossing[c][0] + crossing[c][1] - at;
                if ((seen >> next & 1) == 0) {
                    way.add(c);
                    walk(next, to, open, seen | 1 << next, way);
                    way.remove(way.size() - 1);
                }
            }
        }
    }

    private static boolean less(List<Integer> one, List<Integer> other) {
        for (int i = 0; i < one.size(); i++) {
            if (!one.get(i).equals(other.get(i))) {
                return one.get(i) < other.get(i);
            }
        }
        return false;
    }

    private static long[] longs(List<Integer> list) {
        return list.stream().mapToLong(i -> i).toArray();
    }

    private boolean unknown(int p, int to) {
        return p < 0 || p >= people || to < 0 || to >= banks;
    }

    long route(int p, int to) {
        if (unknown(p, to)) {
            return NONE;
        }
        best = null;
        walk(bank[p], to, open(weight[p]), 1 << bank[p], new ArrayList<>());
        return best == null ? -2 : tells(best.size(), longs(best));
    }

    long joined(int of) {
        if (of < 0 || of >= banks) {
            return NONE;
        }
        boolean[] way = ways(open(0))[of];
        long set = 0;
        for (int i = 0; i < banks; i++) {
            set |= way[i] ? 1L << i : 0;
        }
        return tells(set, pairs(open(0)));
    }

    long soonest(int p, int to) {
        if (unknown(p, to)) {
            return NONE;
        }
        World later = copy();
        boolean[] there = new boolean[banks];
        there[bank[p]] = true;
        for (int hour = 0; hour <= 99; hour++) {
            if (there[to]) {
                return hour;
            }
            boolean[] next = there.clone();
            int open = later.open(weight[p]);
            for (int c = 0; c < crossings; c++) {
                if ((open >> c & 1) == 1) {
                    next[crossing[c][0]] |= there[crossing[c][1]];
                    next[crossing[c][1]] |= there[crossing[c][0]];
                }
            }
            there = next;
            later.hours(1);
        }
        return -2;
    }

    private boolean goes(int p, int to) {
        return ways(open(weight[p]))[bank[p]][to];
    }

    private World moved(int b, int c) {
        if (yet[b] != 0 || length[b] < crossing[c][3]) {
            return null;
        }
        for (int at : where) {
            if (at == c) {
                return null;
            }
        }
        World w = copy();
        w.where[b] = c;
        return w;
    }

    long moves(int p, int to) {
        if (unknown(p, to)) {
            return NONE;
        }
        if (goes(p, to)) {
            return tells(0);
        }
        List<Integer> one = null;
        List<Integer> two = null;
        for (int i = 0; i < bridges * crossings; i++) {
            World first = moved(i / crossings, i % crossings);
            if (first != null && first.goes(p, to) && one == null) {
                one = List.of(i / crossings, i % crossings);
            }
            for (int j = 0; first != null && j < bridges * crossings; j++) {
                World second = first.moved(j / crossings, j % crossings);
                if (i / crossings < j / crossings && moved(j / crossings, j % crossings) != null && second != null
                        && second.goes(p, to)) {
                    List<Integer> found = List.of(i / crossings, i % crossings, j / crossings, j % crossings);
                    two = two == null || less(found, two) ? found : two;
                }
            }
        }
        if (one != null) {
            return tells(1, longs(one));
        }
        return two == null ? -2 : tells(2, longs(two));
    }

    long needed() {
        int which = NONE;
        int fewest = Integer.MAX_VALUE;
        for (int b = bridges - 1; b >= 0; b--) {
            if (where[b] != NONE && yet[b] == 0) {
                World w = copy();
                w.where[b] = NONE;
                int left = w.pairs(w.open(0));
                if (left <= fewest) {
                    fewest = left;
                    which = b;
                }
            }
        }
        return which == NONE ? -2 : tells(which, fewest, pairs(open(0)));
    }

    // ---- laid out anew

    private boolean lay(int c, int those, List<Integer> row) {
        if (c == crossings) {
            return true;
        }
        if ((those >> c & 1) == 0) {
            return lay(c + 1, those, row);
        }
        for (int b = 0; b < bridges; b++) {
            if (!row.contains(b) && length[b] >= crossing[c][3]) {
                row.add(b);
                if (lay(c + 1, those, row)) {
                    return true;
                }
                row.remove(row.size() - 1);
            }
        }
        return false;
    }

    long lays(int those) {
        if (those < 0 || those >= 1 << crossings) {
            return NONE;
        }
        List<Integer> laid = new ArrayList<>();
        return lay(0, those, laid) ? tells(1, longs(laid)) : tells(0);
    }

    private boolean layable(int those) {
        return Integer.bitCount(those) <= bridges && lay(0, those, new ArrayList<>());
    }

    private long fewest(int[]... errands) {
        int which = NONE;
        for (int those = (1 << crossings) - 1; those >= 0; those--) {
            if (which == NONE || Integer.bitCount(those) <= Integer.bitCount(which)) {
                boolean[][] way = ways(those);
                boolean all = true;
                for (int[] errand : errands) {
                    all &= way[errand[0]][errand[1]];
                }
                if (all && layable(those)) {
                    which = those;
                }
            }
        }
        return which == NONE ? -2 : tells(Integer.bitCount(which), which);
    }

    long joins(int those) {
        if (those < 0 || those >= 1 << banks) {
            return NONE;
        }
        List<int[]> errands = new ArrayList<>();
        for (int i = 0; i < banks; i++) {
            for (int j = 0; j < banks; j++) {
                if ((those >> i & 1) == 1 && (those >> j & 1) == 1) {
                    errands.add(new int[] {i, j});
                }
            }
        }
        return fewest(errands.toArray(new int[0][]));
    }

    /** ERRANDS that can be read. */
    long errands(String text) {
        return fewest(Arrays.stream(text.split(","))
                .map(pair -> new int[] {pair.charAt(0) - 'a', pair.charAt(1) - 'a'}).toArray(int[][]::new));
    }

    long night() {
        int which = 0;
        int most = -1;
        for (int those = (1 << crossings) - 1; those >= 0; those--) {
            if (layable(those)) {
                int pairs = pairs(those);
                if (pairs > most || pairs == most && Integer.bitCount(those) <= Integer.bitCount(which)) {
                    most = pairs;
                    which = those;
                }
            }
        }
        return tells(most, which);
    }

    // ---- floods

    long flood(int v) {
        if (v < 0 || v > 9) {
            return NONE;
        }
        World w = copy();
        int swept = 0;
        for (int b = 0; b < bridges; b++) {
            if (where[b] != NONE && yet[b] == 0 && crossing[where[b]][3] + v > length[b]) {
                swept |= 1 << where[b];
                w.where[b] = NONE;
            }
        }
        return tells(swept, w.pairs(w.open(0)));
    }

    long highest() {
        int v = 0;
        flood(0);
        long all = row[0];
        while (v < 9) {
            flood(v + 1);
            if (row[0] < all) {
                return tells(v, row[0]);
            }
            v++;
        }
        return tells(9, NONE);
    }

    long worst(int n) {
        if (n < 0 || n > 3) {
            return NONE;
        }
        int laid = open(0);
        int lost = Math.min(n, Integer.bitCount(laid));
        int which = 0;
        int fewest = Integer.MAX_VALUE;
        for (int those = 1023; those >= 0; those--) {
            if ((those & laid) == those && Integer.bitCount(those) == lost && pairs(laid ^ those) <= fewest) {
                fewest = pairs(laid ^ those);
                which = those;
            }
        }
        return tells(fewest, which);
    }

    // ---- drift

    List<Integer> down() {
        List<Integer> all = new ArrayList<>();
        for (int c = 0; c < crossings; c++) {
            all.add(c);
        }
        all.sort((a, b) -> crossing[a][2] != crossing[b][2] ? crossing[a][2] - crossing[b][2] : a - b);
        return all;
    }

    private BigInteger chance(List<Integer> down, int at, int p, int n, int target) {
        if (n == 0) {
            return at == target ? BigInteger.ONE : BigInteger.ZERO;
        }
        int next = Math.min(at + 1, down.size() - 1);
        return chance(down, next, p, n - 1, target).multiply(BigInteger.valueOf(p))
                .add(chance(down, at, p, n - 1, target).multiply(BigInteger.valueOf(10 - p)));
    }

    long drift(int b, int p, int n, int c) {
        if (b < 0 || b >= bridges || p < 0 || p > 10 || n < 0 || n > 12 || c < 0 || c >= crossings) {
            return NONE;
        }
        if (where[b] == NONE || yet[b] != 0) {
            return -2;
        }
        List<Integer> down = down();
        BigInteger part = chance(down, down.indexOf(where[b]), p, n, down.indexOf(c));
        BigInteger whole = BigInteger.TEN.pow(n);
        BigInteger common = part.gcd(whole);
        return tells(0, part.divide(common).longValueExact(), whole.divide(common).longValueExact());
    }

    long seek(int b, int p, int n) {
        if (b < 0 || b >= bridges || p < 0 || p > 10 || n < 0 || n > 12) {
            return NONE;
        }
        if (where[b] == NONE || yet[b] != 0) {
            return -2;
        }
        int likeliest = NONE;
        long[] fraction = {-1, 1};
        for (int c : down()) {
            drift(b, p, n, c);
            if (BigInteger.valueOf(row[0]).multiply(BigInteger.valueOf(fraction[1]))
                    .compareTo(BigInteger.valueOf(fraction[0]).multiply(BigInteger.valueOf(row[1]))) > 0) {
                likeliest = c;
                fraction = row;
            }
        }
        return tells(likeliest, fraction);
    }

    // ---- thefts

    boolean so(int b, int what, int v) {
        return switch (what) {
            case 0 -> length[b] >= v;
            case 1 -> sound[b] >= v;
            case 2 -> (length[b] + sound[b]) % 7 == v;
            default -> b % 2 == v;
        };
    }

    private List<Integer> fitting(List<int[]> found) {
        List<Integer> fit = new ArrayList<>();
        for (int b = 0; b < bridges; b++) {
            boolean all = true;
            for (int[] f : found) {
                all &= so(b, f[0], f[1]) == (f[2] == 1);
            }
            if (all) {
                fit.add(b);
            }
        }
        return fit;
    }

    long stolen(List<int[]> found) {
        List<Integer> fit = fitting(found);
        return tells(fit.stream().mapToLong(b -> 1L << b).sum(), fit.size());
    }

    long ask(List<int[]> found) {
        if (fitting(found).isEmpty()) {
            return -2;
        }
        int best = NONE;
        int least = Integer.MAX_VALUE;
        int[] most = {18, 18, 6, 1};
        for (int what = 3; what >= 0; what--) {
            for (int v = most[what]; v >= 0; v--) {
                int worst = 0;
                for (int is = 0; is <= 1; is++) {
                    List<int[]> then = new ArrayList<>(found);
                    then.add(new int[] {what, v, is});
                    worst = Math.max(worst, fitting(then).size());
                }
                if (worst <= least) {
                    least = worst;
                    best = 19 * what + v;
                }
            }
        }
        return tells(best, least);
    }

    // ---- loans, years

    long home() {
        World w = copy();
        for (int b = 0; b < bridges; b++) {
            if (till[b] != NONE && where[b] != NONE && yet[b] == 0) {
                w.tow(b, NONE);
            }
        }
        long late = 0;
        int last = now;
        int[] hour = new int[bridges];
        Arrays.fill(hour, now);
        for (int h = 0; h < 1200; h++) {
            for (int b = 0; b < bridges; b++) {
                hour[b] = w.yet[b] > 0 ? w.now + 1 : hour[b];
            }
            w.hours(1);
            late |= w.row[1];
        }
        for (int b = 0; b < bridges; b++) {
            last = till[b] != NONE && (late >> b & 1) == 0 ? Math.max(last, hour[b]) : last;
        }
        return tells(late, last);
    }

    long years(int seed, int n) {
        if (n < 1 || n > 60 || bridges == 0) {
            return NONE;
        }
        World w = copy();
        List<Integer> down = down();
        long random = seed & 0xFFFFFFFFL;
        int sheds = 0;
        int fewest = Integer.MAX_VALUE;
        for (int night = 0; night < n; night++) {
            random = (random * 1103515245L + 12345L) % 4294967296L;
            int b = (int) (random / 65536 % bridges);
            int at = w.yet[b] > 0 ? NONE : down.indexOf(w.where[b]);
            if (at != NONE && at < down.size() - 1) {
                int next = down.get(at + 1);
                boolean free = true;
                for (int other : w.where) {
                    free &= other != next;
                }
                boolean goes = free && length[b] >= crossing[next][3];
                w.where[b] = goes ? next : NONE;
                sheds += goes ? 0 : 1;
            }
            fewest = Math.min(fewest, w.pairs(w.open(0)));
        }
        return tells(w.pairs(w.open(0)), sheds, fewest);
    }
}
