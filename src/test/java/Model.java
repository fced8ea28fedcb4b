import java.util.ArrayList;
import java.util.Arrays;
import java.util.Collections;
import java.util.HashMap;
import java.util.HashSet;
import java.util.List;
import java.util.Map;
import java.util.NoSuchElementException;
import java.util.Set;

/**
 * The document once more, written as plainly as can be and in other ways than the class (day by
 * day, minute by minute, sign by sign, with lists), so that ModelTest can compare the two.
 */
final class Model {
    static final long LAST = 1000000000000L;

    /** A STREET: first PLACE, other PLACE. LENGTHS are apart, since they are kept. */
    final List<int[]> streets = new ArrayList<>();
    List<Integer> lengths = new ArrayList<>();
    List<List<Integer>> orders = new ArrayList<>();
    List<long[]> letters = new ArrayList<>();
    final List<int[]> wishes = new ArrayList<>();
    List<Long> row = new ArrayList<>();
    String text = "";
    String rule = "";
    long today;
    final Map<Integer, Object[]> kept = new HashMap<>();
    private final Map<Long, List<Integer>> known = new HashMap<>();

    // ---- names, by walking through whole weeks

    private void changed() {
        known.clear();
    }

    private List<Integer> own() {
        List<Integer> own = new ArrayList<>();
        for (int s = 0; s < streets.size(); s++) {
            own.add(s);
        }
        return own;
    }

    private static List<Integer> night(List<Integer> names, List<Integer> order) {
        List<Integer> then = new ArrayList<>();
        for (int s = 0; s < names.size(); s++) {
            int next = s < order.size() ? order.get(s) : s;
            then.add(names.get(next));
        }
        return then;
    }

    private static List<Integer> namesBy(List<List<Integer>> orders, List<Integer> own, long day, int shift) {
        if (orders.isEmpty()) {
            return own;
        }
        // weeks are left out by the least number of weeks that bring back DAY 0
        List<Integer> names = own;
        long weeks = 0;
        do {
            for (int i = 0; i < orders.size(); i++) {
                names = night(names, orders.get((i + shift) % orders.size()));
            }
            weeks++;
        } while (!names.equals(own));
        long rest = day % (weeks * orders.size());
        for (long d = 1; d <= rest; d++) {
            names = night(names, orders.get((int) ((d - 1 + shift) % orders.size())));
        }
        return names;
    }

    List<Integer> names(long day) {
        return known.computeIfAbsent(day, d -> namesBy(orders, own(), d, 0));
    }

    int bearer(int name, long day) {
        return names(day).indexOf(name);
    }

    private boolean street(int s) {
        return s >= 0 && s < streets.size();
    }

    private static boolean day(long d) {
        return d >= 0 && d <= LAST;
    }

    private boolean isLetter(int l) {
        return l >= 0 && l < letters.size();
    }

    private void tell(long... numbers) {
        row = new ArrayList<>();
        for (long number : numbers) {
            row.add(number);
        }
    }

    private void tell(List<Integer> numbers) {
        row = new ArrayList<>();
        for (int number : numbers) {
            row.add((long) number);
        }
    }

    // ---- the town

    int sign(int v) {
        if (text.length() + 4 > 80) {
            return -1;
        }
        text += "" + (char) (v >>> 24) + (char) (v >>> 16 & 255) + (char) (v >>> 8 & 255) + (char) (v & 255);
        return text.length();
    }

    boolean end(int n) {
        if (n < 0 || n > text.length()) {
            return false;
        }
        text = text.substring(0, n);
        return true;
    }

    /** Sign by sign: what may come next is known from the kind of the sign ahead. */
    int town() {
        String t = text;
        text = "";
        if (t.isEmpty()) {
            return 0;
        }
        List<int[]> newStreets = new ArrayList<>(streets);
        List<Integer> newLengths = new ArrayList<>(lengths);
        List<List<Integer>> newOrders = new ArrayList<>(orders);
        int lines = 0;
        String wanted = "line";
        int first = 0;
        int other = 0;
        int number = 0;
        List<List<Integer>> cycles = new ArrayList<>();
        for (int p = 0; p <= t.length(); p++) {
            if (p == 76 && t.length() > 76 && !(wanted.equals("digit2") && number == 0)) {
                return -77;
            }
            boolean over = p == t.length() || p == 76;
            char c = over ? ';' : t.charAt(p);
            boolean digit = c >= '0' && c <= '9';
            switch (wanted) {
                case "line":
                    if (over) {
                        return -1 - p;
                    }
                    if (digit && newStreets.size() < 12) {
                        first = c - '0';
                        wanted = "dash";
                    } else if (c == 'o' && newOrders.size() < 7) {
                        cycles = new ArrayList<>();
                        wanted = "cycles";
                    } else {
                        return -1 - p;
                    }
                    break;
                case "dash":
                    if (c != '-') {
                        return -1 - p;
                    }
                    wanted = "place";
                    break;
                case "place":
                    other = c - '0';
                    if (!digit || other == first) {
                        return -1 - p;
                    }
                    wanted = "comma";
                    break;
                case "comma":
                    if (c != ',') {
                        return -1 - p;
                    }
                    wanted = "digit1";
                    break;
                case "digit1":
                    if (!digit) {
                        return -1 - p;
                    }
                    number = c - '0';
                    wanted = "digit2";
                    break;
                case "digit2":
                    if (digit) {
                        number = number * 10 + c - '0';
                        if (number < 1 || number > 20) {
                            return -1 - p;
                        }
                        wanted = "semicolon";
                        break;
                    }
                    if (number < 1) {
                        return -1 - (p - 1);
                    }
                    // fall through
                case "semicolon":
                    if (c != ';') {
                        return -1 - p;
                    }
                    newStreets.add(new int[] {first, other});
                    newLengths.add(number);
                    lines++;
                    wanted = "line";
                    break;
                default:
                    boolean open = !cycles.isEmpty() && !cycles.get(cycles.size() - 1).isEmpty();
                    if (c == ';') {
                        if (!open && !cycles.isEmpty()) {
                            return -1 - p;
                        }
                        List<Integer> order = new ArrayList<>();
                        for (int s = 0; s < newStreets.size(); s++) {
                            order.add(s);
                        }
                        for (List<Integer> cycle : cycles) {
                            for (int i = 0; i < cycle.size(); i++) {
                                order.set(cycle.get(i), cycle.get((i + 1) % cycle.size()));
                            }
                        }
                        newOrders.add(order);
                        lines++;
                        wanted = "line";
                    } else if (c == '.' && open) {
                        cycles.add(new ArrayList<>());
                    } else {
                        int s = c - 'a';
                        for (List<Integer> cycle : cycles) {
                            if (cycle.contains(s)) {
                                return -1 - p;
                            }
                        }
                        if (s < 0 || s >= newStreets.size()) {
                            return -1 - p;
                        }
                        if (cycles.isEmpty()) {
                            cycles.add(new ArrayList<>());
                        }
                        cycles.get(cycles.size() - 1).add(s);
                    }
            }
            if (over) {
                break;
            }
        }
        streets.clear();
        streets.addAll(newStreets);
        lengths = newLengths;
        orders = newOrders;
        changed();
        return lines;
    }

    int street(int s, int what) {
        if (!street(s) || what < 0 || what > 3) {
            throw new NoSuchElementException();
        }
        return what < 2 ? streets.get(s)[what] : what == 2 ? lengths.get(s) : names(today).get(s);
    }

    int next(int o, int s) {
        if (o < 0 || o >= orders.size() || !street(s)) {
            return -1;
        }
        return s < orders.get(o).size() ? orders.get(o).get(s) : s;
    }

    int sheet(int kind, int n, int f, int step) {
        if (kind < 0 || kind > 3 || n > 12) {
            return -1;
        }
        if (kind != 3 && n < 0) {
            return -2;
        }
        List<Integer> entries = new ArrayList<>();
        int entry = f;
        for (int i = 0; kind != 3 && i < n; i++) {
            int e = kind == 0 ? (byte) entry : kind == 1 ? (short) entry : entry;
            entries.add(e < 1 ? 1 : e > 20 ? 20 : e);
            entry += step;
        }
        List<Integer> now = new ArrayList<>();
        int sum = 0;
        for (int s = 0; s < streets.size(); s++) {
            now.add(s < entries.size() ? entries.get(s) : 1);
            sum += now.get(s);
        }
        lengths = now;
        return kind == 3 ? -3 : sum;
    }

    /** Ways are made shorter STREET by STREET till none can be. */
    int far(int a, int b) {
        if (a < 0 || a > 9 || b < 0 || b > 9) {
            return -1;
        }
        int[] to = new int[10];
        Arrays.fill(to, 999);
        to[a] = 0;
        boolean shorter = true;
        while (shorter) {
            shorter = false;
            for (int s = 0; s < streets.size(); s++) {
                int p = streets.get(s)[0];
                int q = streets.get(s)[1];
                int l = lengths.get(s);
                if (to[p] + l < to[q]) {
                    to[q] = to[p] + l;
                    shorter = true;
                }
                if (to[q] + l < to[p]) {
                    to[p] = to[q] + l;
                    shorter = true;
                }
            }
        }
        return to[b];
    }

    private int house(int s) {
        return streets.get(s)[0];
    }

    int pass(long n) {
        if (n < 0 || n > LAST || today + n > LAST) {
            return -1;
        }
        today += n;
        return orders.isEmpty() ? 0 : (int) (today % orders.size());
    }

    // ---- names

    int name(int s, long d) {
        return street(s) && day(d) ? names(d).get(s) : -1;
    }

    int where(int n, long d) {
        return street(n) && day(d) ? bearer(n, d) : -1;
    }

    int same(long d, long e) {
        if (!day(d) || !day(e)) {
            return -1;
        }
        int bits = 0;
        for (int s = 0; s < streets.size(); s++) {
            if (names(d).get(s).equals(names(e).get(s))) {
                bits += 1 << s;
            }
        }
        tell(bits);
        return Integer.bitCount(bits);
    }

    private static int[] periods(List<List<Integer>> orders, List<Integer> own) {
        if (own.isEmpty() || orders.isEmpty()) {
            return new int[] {1, 1};
        }
        int first = 0;
        List<Integer> names = own;
        for (int d = 1;; d++) {
            names = night(names, orders.get((d - 1) % orders.size()));
            if (names.equals(own)) {
                first = first == 0 ? d : first;
                if (d % orders.size() == 0) {
                    return new int[] {first, d};
                }
            }
        }
    }

    private int turn() {
        return periods(orders, own())[1];
    }

    int period() {
        int[] both = periods(orders, own());
        tell(both[1]);
        return both[0];
    }

    long meets(int s, int n, long d) {
        if (!street(s) || !street(n) || !day(d)) {
            return -1;
        }
        for (long e = d + 1; e <= d + turn(); e++) {
            if (names(e).get(s) == n) {
                return e;
            }
        }
        return -2;
    }

    long trade(int a, int b, long d) {
        if (!street(a) || !street(b) || a == b || !day(d)) {
            return -1;
        }
        for (long e = d + 1; e <= d + turn(); e++) {
            if (names(e).get(a) == b && names(e).get(b) == a) {
                return e;
            }
        }
        return -2;
    }

    int bears(int s) {
        if (!street(s)) {
            return -1;
        }
        Set<Integer> ever = new HashSet<>();
        for (int d = 0; d < turn(); d++) {
            ever.add(names(d).get(s));
        }
        int bits = 0;
        for (int n : ever) {
            bits += 1 << n;
        }
        return bits;
    }

    long often(int s, int n, long days) {
        if (!street(s) || !street(n) || days < 1 || days > LAST) {
            return -1;
        }
        long count = 0;
        int turn = turn();
        for (int d = 0; d < turn && d < days; d++) {
            if (names(d).get(s) == n) {
                count += (days - 1 - d) / turn + 1;
            }
        }
        return count;
    }

    int quiet() {
        int turn = turn();
        int best = -2;
        int most = -1;
        for (int d = turn - 1; d >= 1; d--) {
            int count = 0;
            for (int s = 0; s < streets.size(); s++) {
                count += names(d).get(s) == s ? 1 : 0;
            }
            if (count >= most) {
                most = count;
                best = d;
            }
        }
        if (best > 0) {
            tell(most);
        }
        return best;
    }

    // ---- letters

    int letter(int n, long d) {
        if (!street(n) || !day(d) || letters.size() == 12) {
            return -1;
        }
        letters.add(new long[] {n, d});
        return letters.size() - 1;
    }

    private int letterName(int l) {
        return (int) letters.get(l)[0];
    }

    private int homeOf(int l) {
        return bearer(letterName(l), letters.get(l)[1]);
    }

    int home(int l) {
        if (!isLetter(l)) {
            return -1;
        }
        tell(bearer(letterName(l), today), today - letters.get(l)[1]);
        return homeOf(l);
    }

    private int tellMeant(int n, List<Long> days) {
        Map<Integer, Integer> tally = new HashMap<>();
        for (long d : days) {
            tally.merge(bearer(n, d), 1, Integer::sum);
        }
        int bits = 0;
        int best = -1;
        for (int s = 0; s < streets.size(); s++) {
            if (tally.containsKey(s)) {
                bits += 1 << s;
                if (best < 0 || tally.get(s) > tally.get(best)) {
                    best = s;
                }
            }
        }
        tell(tally.size(), best, tally.get(best));
        return bits;
    }

    int means(int n, long from, long to) {
        if (!street(n) || !day(from) || !day(to) || to < from || to - from > 999) {
            return -1;
        }
        List<Long> days = new ArrayList<>();
        for (long d = from; d <= to; d++) {
            days.add(d);
        }
        return tellMeant(n, days);
    }

    int smudge(int n, int o) {
        if (!street(n) || o < 0 || o >= orders.size()) {
            return -1;
        }
        List<Long> days = new ArrayList<>();
        for (long d = 0; d < turn(); d++) {
            if (d % orders.size() == o) {
                days.add(d);
            }
        }
        return tellMeant(n, days);
    }

    int misread(int l, int shift) {
        if (!isLetter(l) || shift < 0 || shift > 6) {
            return -1;
        }
        return namesBy(orders, own(), letters.get(l)[1], shift).indexOf(letterName(l));
    }

    int shifts(int l) {
        if (!isLetter(l)) {
            return -1;
        }
        int bits = 0;
        for (int shift = 0; shift < orders.size(); shift++) {
            bits += misread(l, shift) == homeOf(l) ? 1 << shift : 0;
        }
        tell(bits);
        return Integer.bitCount(bits);
    }

    private Map<List<List<Integer>>, Integer> asked = new HashMap<>();

    private int worst(int n, List<List<Integer>> may, int ask) {
        Map<Integer, List<List<Integer>>> parts = new HashMap<>();
        for (List<Integer> names : may) {
            parts.computeIfAbsent(names.get(ask), a -> new ArrayList<>()).add(names);
        }
        if (parts.size() == 1) {
            return 99;
        }
        int most = 0;
        for (List<List<Integer>> part : parts.values()) {
            most = Math.max(most, 1 + fewest(n, part));
        }
        return most;
    }

    private int fewest(int n, List<List<Integer>> may) {
        Set<Integer> homes = new HashSet<>();
        for (List<Integer> names : may) {
            homes.add(names.indexOf(n));
        }
        if (homes.size() == 1) {
            return 0;
        }
        Integer already = asked.get(may);
        if (already != null) {
            return already;
        }
        int least = 99;
        for (int s = 0; s < streets.size(); s++) {
            least = Math.min(least, worst(n, may, s));
        }
        asked.put(may, least);
        return least;
    }

    int asks(int n, long from, long to) {
        if (!street(n) || !day(from) || !day(to) || to < from || to - from > 59) {
            return -1;
        }
        if (streets.size() > 6) {
            return -3;
        }
        asked.clear();
        List<List<Integer>> may = new ArrayList<>();
        Set<Integer> homes = new HashSet<>();
        for (long d = from; d <= to; d++) {
            if (!may.contains(names(d))) {
                may.add(names(d));
            }
            homes.add(bearer(n, d));
        }
        int least = fewest(n, may);
        int first = -1;
        for (int s = streets.size() - 1; s >= 0 && least > 0; s--) {
            first = worst(n, may, s) == least ? s : first;
        }
        tell(first, homes.size());
        return least;
    }

    int answer(int l, int s) {
        return isLetter(l) && street(s) ? names(letters.get(l)[1]).get(s) : -1;
    }

    private static List<Integer> cycleLengths(List<Integer> nexts) {
        List<Integer> lengths = new ArrayList<>();
        Set<Integer> met = new HashSet<>();
        for (int s = 0; s < nexts.size(); s++) {
            int length = 0;
            for (int at = s; met.add(at); at = nexts.get(at)) {
                length++;
            }
            if (length > 0) {
                lengths.add(length);
            }
        }
        return lengths;
    }

    private List<Integer> wholeOrder(int o) {
        List<Integer> order = new ArrayList<>();
        for (int s = 0; s < streets.size(); s++) {
            order.add(next(o, s));
        }
        return order;
    }

    int cycles(int o) {
        if (o < 0 || o >= orders.size()) {
            return -1;
        }
        List<Integer> lengths = cycleLengths(wholeOrder(o));
        List<Integer> counts = new ArrayList<>();
        for (int length = 1; length <= streets.size(); length++) {
            counts.add(Collections.frequency(lengths, length));
        }
        tell(counts);
        return streets.size() - Collections.frequency(lengths, 1);
    }

    /** All rows of 0 .. n less 1, the least first. */
    static List<List<Integer>> allRows(int n) {
        List<List<Integer>> rows = new ArrayList<>();
        grow(rows, new ArrayList<>(), n);
        return rows;
    }

    private static void grow(List<List<Integer>> rows, List<Integer> begun, int n) {
        if (begun.size() == n) {
            rows.add(new ArrayList<>(begun));
        }
        for (int i = 0; i < n; i++) {
            if (!begun.contains(i)) {
                begun.add(i);
                grow(rows, begun, n);
                begun.remove(begun.size() - 1);
            }
        }
    }

    int roots(int o, int n) {
        if (o < 0 || o >= orders.size() || n < 1 || n > 12) {
            return -1;
        }
        if (streets.size() > 6) {
            return -3;
        }
        int count = 0;
        tell();
        for (List<Integer> way : allRows(streets.size())) {
            List<Integer> names = own();
            for (int i = 0; i < n; i++) {
                names = night(names, way);
            }
            if (names.equals(night(own(), orders.get(o)))) {
                if (count == 0) {
                    tell(way);
                }
                count++;
            }
        }
        return count;
    }

    /** Exchanges are really made, each of which gives one STREET its own NAME. */
    int mends(long d) {
        if (!day(d)) {
            return -1;
        }
        List<Integer> names = new ArrayList<>(names(d));
        tell();
        int count = 0;
        for (int s = 0; s < names.size(); s++) {
            if (names.get(s) != s) {
                int other = names.indexOf(s);
                if (count == 0) {
                    tell(s, other);
                }
                Collections.swap(names, s, other);
                count++;
            }
        }
        return count;
    }

    // ---- postmen

    private int taken(int l, int late, long d) {
        return bearer(letterName(l), d - late < 0 ? 0 : d - late);
    }

    int carries(int l, int late) {
        if (!isLetter(l) || late < 0 || late > 99) {
            return -1;
        }
        int s = taken(l, late, today);
        tell(s == homeOf(l) ? 1 : 0, far(house(s), house(homeOf(l))));
        return s;
    }

    int best(int l) {
        if (!isLetter(l)) {
            return -1;
        }
        for (int late = 0; late < 100; late++) {
            if (taken(l, late, today) == homeOf(l)) {
                return late;
            }
        }
        return -2;
    }

    int days(int l, int late, int n) {
        if (!isLetter(l) || late < 0 || late > 99 || n < 1 || n > 1000) {
            return -1;
        }
        List<Long> hit = new ArrayList<>();
        for (long d = today; d < today + n; d++) {
            if (taken(l, late, d) == homeOf(l)) {
                hit.add(d);
            }
        }
        tell(hit.isEmpty() ? -1 : hit.get(0));
        return hit.size();
    }

    int postman(int n) {
        if (n < 1 || n > 30 || letters.isEmpty()) {
            return -1;
        }
        List<Integer> counts = new ArrayList<>();
        for (int late = 0; late < 100; late++) {
            int count = 0;
            for (long d = today; d < today + n; d++) {
                for (int l = 0; l < letters.size(); l++) {
                    count += taken(l, late, d) == homeOf(l) ? 1 : 0;
                }
            }
            counts.add(count);
        }
        int most = Collections.max(counts);
        tell(most, counts.get(0));
        return counts.indexOf(most);
    }

    private int send(int l, int late, boolean byRule) {
        List<Integer> came = new ArrayList<>();
        int lies = letterName(l);
        int answer = -2;
        for (int k = 0; k <= 1000; k++) {
            int now = byRule ? ruled(l, k, lies, today + k) : Math.min(99, late + k);
            lies = taken(l, now, today + k);
            came.add(lies);
            if (lies == homeOf(l)) {
                answer = k;
                break;
            }
        }
        int sum = 0;
        boolean noWay = false;
        Map<Integer, Integer> ways = new HashMap<>();
        for (int i = 1; i < came.size(); i++) {
            int from = house(came.get(i - 1));
            int to = house(came.get(i));
            int way = ways.computeIfAbsent(from * 10 + to, f -> far(from, to));
            noWay |= way == 999;
            sum += way;
        }
        tell(new HashSet<>(came).size(), noWay ? -1 : sum);
        return answer;
    }

    int travels(int l, int late) {
        return isLetter(l) && late >= 0 && late <= 99 ? send(l, late, false) : -1;
    }

    private static List<Integer> bits(int mask) {
        List<Integer> list = new ArrayList<>();
        for (int i = 0; i < 31; i++) {
            if ((mask >> i & 1) == 1) {
                list.add(i);
            }
        }
        return list;
    }

    /** Minute by minute. */
    int round(int place, int mask, int minutes) {
        List<Integer> wanted = bits(mask);
        if (place < 0 || place > 9 || mask < 1 || mask >= 1 << letters.size() || wanted.size() > 6
                || minutes < 1 || minutes > 999) {
            return -1;
        }
        int[][] ways = new int[10][10];
        for (int a = 0; a < 10; a++) {
            for (int b = 0; b < 10; b++) {
                ways[a][b] = far(a, b);
            }
        }
        int least = Integer.MAX_VALUE;
        for (List<Integer> way : allRows(wanted.size())) {
            int at = place;
            int now = 0;
            for (int i : way) {
                int name = letterName(wanted.get(i));
                boolean came = false;
                for (int then = now; then < 100 * minutes && !came; then++) {
                    int there = house(bearer(name, today + then / minutes));
                    if (ways[at][there] < 999 && now + ways[at][there] <= then) {
                        came = true;
                        at = there;
                        now = then;
                    }
                }
                if (!came) {
                    now = Integer.MAX_VALUE;
                    break;
                }
            }
            if (now < least) {
                least = now;
                List<Integer> told = new ArrayList<>();
                for (int i : way) {
                    told.add(wanted.get(i));
                }
                tell(told);
            }
        }
        return least == Integer.MAX_VALUE ? -2 : least;
    }

    // ---- the rule, sign by sign

    /** The first place at which a sign can't stand, or NONE. */
    static int ruleFault(String t) {
        List<Boolean> compared = new ArrayList<>();
        compared.add(false);
        boolean thingWanted = true;
        int digits = 0;
        for (int p = 0; p < t.length() && p < 40; p++) {
            char c = t.charAt(p);
            int inner = compared.size() - 1;
            if (c >= '0' && c <= '9' && (thingWanted || digits > 0 && digits < 3)) {
                digits++;
                thingWanted = false;
                continue;
            }
            digits = 0;
            if (thingWanted) {
                if (c == '(' && inner < 4) {
                    compared.add(false);
                } else if ("aknswo".indexOf(c) >= 0) {
                    thingWanted = false;
                } else if (c != '-') {
                    return p;
                }
            } else if (c == ')' && inner > 0) {
                compared.remove(inner);
            } else if ("+-*/%".indexOf(c) >= 0) {
                thingWanted = true;
            } else if ("<>=".indexOf(c) >= 0 && !compared.get(inner)) {
                compared.set(inner, true);
                thingWanted = true;
            } else {
                return p;
            }
        }
        if (t.length() > 40) {
            return 40;
        }
        return thingWanted || compared.size() > 1 ? t.length() : -1;
    }

    int rule() {
        String t = text;
        text = "";
        int fault = t.isEmpty() ? -1 : ruleFault(t);
        if (fault < 0) {
            rule = t;
            return 0;
        }
        return -1 - fault;
    }

    /** By the weakest sign from the right that is in no brackets: what is to both sides of it. */
    static int value(String t, Map<Character, Integer> things) {
        for (String signs : new String[] {"<>=", "+-", "*/%"}) {
            int depth = 0;
            for (int p = t.length() - 1; p > 0; p--) {
                char c = t.charAt(p);
                depth += c == ')' ? 1 : c == '(' ? -1 : 0;
                boolean behindThing = "<>=+-*/%(".indexOf(t.charAt(p - 1)) < 0;
                if (depth == 0 && behindThing && signs.indexOf(c) >= 0) {
                    int a = value(t.substring(0, p), things);
                    int b = value(t.substring(p + 1), things);
                    return c == '<' ? (a < b ? 1 : 0) : c == '>' ? (a > b ? 1 : 0) : c == '=' ? (a == b ? 1 : 0)
                            : c == '+' ? a + b : c == '-' ? a - b : c == '*' ? a * b
                            : b == 0 ? 0 : c == '/' ? a / b : a % b;
                }
            }
        }
        if (t.charAt(0) == '-') {
            return -value(t.substring(1), things);
        }
        if (t.charAt(0) == '(') {
            return value(t.substring(1, t.length() - 1), things);
        }
        return things.containsKey(t.charAt(0)) ? things.get(t.charAt(0)) : Integer.parseInt(t);
    }

    private int ruled(int l, int k, int lies, long d) {
        if (rule.isEmpty()) {
            return 0;
        }
        long ago = d - letters.get(l)[1];
        Map<Character, Integer> things = new HashMap<>();
        things.put('a', (int) (ago > 9999 ? 9999 : ago < -9999 ? -9999 : ago));
        things.put('k', k);
        things.put('n', letterName(l));
        things.put('s', lies);
        things.put('w', orders.isEmpty() ? 0 : (int) (d % orders.size()));
        things.put('o', orders.size());
        int value = value(rule, things);
        return value < 0 ? 0 : value > 99 ? 99 : value;
    }

    int late(int l, int k, int s) {
        if (!isLetter(l) || k < 0 || !street(s)) {
            throw new NoSuchElementException();
        }
        return ruled(l, k, s, today);
    }

    int sends(int l) {
        return isLetter(l) ? send(l, 0, true) : -1;
    }

    int walk(int place, int mask) {
        List<Integer> wanted = bits(mask);
        if (place < 0 || place > 9 || mask < 1 || mask >= 1 << streets.size() || wanted.size() > 7) {
            return -1;
        }
        int[][] ways = new int[10][10];
        for (int a = 0; a < 10; a++) {
            for (int b = 0; b < 10; b++) {
                ways[a][b] = far(a, b);
            }
        }
        int least = 100000;
        for (List<Integer> way : allRows(wanted.size())) {
            int at = place;
            int sum = 0;
            List<Integer> told = new ArrayList<>();
            for (int i : way) {
                int there = house(wanted.get(i));
                sum += ways[at][there] == 999 ? 100000 : ways[at][there];
                at = there;
                told.add(wanted.get(i));
            }
            if (sum < least) {
                least = sum;
                tell(told);
            }
        }
        return least == 100000 ? -2 : least;
    }

    int meet(int mask) {
        if (mask < 1 || mask >= 1 << letters.size()) {
            return -1;
        }
        int best = -2;
        int least = 0;
        for (int place = 0; place < 10; place++) {
            int sum = 0;
            int most = 0;
            for (int l : bits(mask)) {
                int way = far(place, house(homeOf(l)));
                sum = way == 999 || sum < 0 ? -1 : sum + way;
                most = Math.max(most, way);
            }
            if (sum >= 0 && (best < 0 || sum < least)) {
                best = place;
                least = sum;
                tell(sum, most);
            }
        }
        return best;
    }

    // ---- the council

    int wish(int sort, int s, int number) {
        boolean fine = street(s) && (sort == 0 && street(number) && number != s
                || (sort == 1 || sort == 2) && number >= 1 && number <= 12 || sort == 3 && street(number));
        if (!fine || wishes.size() == 6) {
            return -1;
        }
        wishes.add(new int[] {sort, s, number});
        return wishes.size() - 1;
    }

    /** By going through the DAYS of a turn. */
    private boolean keeps(List<List<Integer>> by, int[] wish) {
        int s = wish[1];
        int number = wish[2];
        List<Integer> names = own();
        boolean again = false;
        int turn = Math.max(12, periods(by, own())[1]);
        for (int d = 0; d <= turn; d++) {
            if (d > 0 && !by.isEmpty()) {
                names = night(names, by.get((d - 1) % by.size()));
            }
            if (wish[0] == 0 && names.get(s) == number || wish[0] == 2 && d == number && names.get(s) == s) {
                return false;
            }
            again |= d > 0 && d <= number && names.get(s) == s;
        }
        if (wish[0] == 3) {
            for (List<Integer> order : by) {
                if ((s < order.size() ? order.get(s) : s) == number) {
                    return false;
                }
            }
        }
        return wish[0] != 1 || again;
    }

    int kept() {
        int mask = 0;
        for (int i = 0; i < wishes.size(); i++) {
            mask += keeps(orders, wishes.get(i)) ? 1 << i : 0;
        }
        return mask;
    }

    private List<List<Integer>> ordersFor(int mask) {
        List<List<Integer>> all = new ArrayList<>();
        for (List<Integer> way : allRows(streets.size())) {
            boolean fine = true;
            for (int i : bits(mask)) {
                fine = fine && keeps(Collections.singletonList(way), wishes.get(i));
            }
            if (fine) {
                all.add(way);
            }
        }
        return all;
    }

    int choose(int mask) {
        if (mask < 0 || mask >= 1 << wishes.size()) {
            return -1;
        }
        if (streets.size() > 6) {
            return -3;
        }
        List<List<Integer>> all = ordersFor(mask);
        tell(all.isEmpty() ? new ArrayList<>() : all.get(0));
        return all.size();
    }

    int proof() {
        if (streets.size() > 6) {
            return -3;
        }
        for (int size = 1; size <= wishes.size(); size++) {
            for (int mask = 0; mask < 1 << wishes.size(); mask++) {
                if (Integer.bitCount(mask) == size && ordersFor(mask).isEmpty()) {
                    tell(mask);
                    return size;
                }
            }
        }
        return 0;
    }

    int decree(int mask) {
        if (mask < 0 || mask >= 1 << wishes.size()) {
            return -1;
        }
        if (streets.size() > 6) {
            return -3;
        }
        List<List<Integer>> all = ordersFor(mask);
        if (!all.isEmpty()) {
            orders = new ArrayList<>();
            orders.add(all.get(0));
            today = 0;
            changed();
        }
        return all.size();
    }

    boolean swap(int a, int b) {
        if (a < 0 || b < 0 || a >= orders.size() || b >= orders.size()) {
            return false;
        }
        orders = new ArrayList<>(orders);
        Collections.swap(orders, a, b);
        changed();
        return true;
    }

    int soonest() {
        if (orders.size() < 2) {
            return -1;
        }
        int least = Integer.MAX_VALUE;
        for (int a = 0; a < orders.size(); a++) {
            for (int b = a + 1; b < orders.size(); b++) {
                List<List<Integer>> other = new ArrayList<>(orders);
                Collections.swap(other, a, b);
                int d = periods(other, own())[0];
                if (d < least) {
                    least = d;
                    tell(a, b, periods(orders, own())[0]);
                }
            }
        }
        return least;
    }

    // ---- kept

    boolean keep(int i) {
        if (i != 0 && i != 1) {
            return false;
        }
        kept.put(i, new Object[] {new ArrayList<>(orders), new ArrayList<>(lengths), today,
            new ArrayList<>(letters), streets.size()});
        return true;
    }

    @SuppressWarnings("unchecked")
    boolean again(int i) {
        Object[] was = kept.get(i);
        if (was == null || (int) was[4] != streets.size()) {
            return false;
        }
        orders = new ArrayList<>((List<List<Integer>>) was[0]);
        lengths = new ArrayList<>((List<Integer>) was[1]);
        today = (long) was[2];
        letters = new ArrayList<>((List<long[]>) was[3]);
        changed();
        return true;
    }

    int count(int what) {
        int[] counts = {streets.size(), orders.size(), letters.size(), wishes.size(), row.size(), text.length()};
        return what >= 0 && what < counts.length ? counts[what] : -1;
    }

    long row(int i) {
        if (i < 0 || i >= row.size()) {
            throw new NoSuchElementException();
        }
        return row.get(i);
    }
}
