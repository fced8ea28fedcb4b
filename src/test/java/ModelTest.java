import java.util.NoSuchElementException;
import java.util.Random;

/** Long runs of calls, drawn by a fixed seed, answered alike by the class and by the model. */
public final class ModelTest {
    private static final int RUNS = 400;
    private static final int CALLS = 300;

    private final Random random;
    private final int run;
    private final StreetsStepOn x = new StreetsStepOn();
    private final Model m = new Model();
    private final StringBuilder log = new StringBuilder();
    private boolean wrong;
    private final int mostStreets;

    private ModelTest(int run) {
        this.run = run;
        this.random = new Random(run);
        this.mostStreets = new int[] {3, 5, 6, 12}[run % 4];
    }

    public static void main(String[] args) {
        int wrong = 0;
        int first = args.length > 0 ? Integer.parseInt(args[0]) : 0;
        int runs = args.length > 1 ? Integer.parseInt(args[1]) : RUNS;
        for (int run = first; run < first + runs && wrong < 3; run++) {
            ModelTest test = new ModelTest(run);
            test.go();
            wrong += test.wrong ? 1 : 0;
        }
        System.out.println(runs + " runs, " + wrong + " not as due");
        if (wrong != 0) {
            System.exit(1);
        }
    }

    private interface Call {
        long of();
    }

    /** NoSuchElementException counts as an answer of its own. */
    private static final long THROWN = Long.MIN_VALUE + 17;

    private static long answer(Call call) {
        try {
            return call.of();
        } catch (NoSuchElementException e) {
            return THROWN;
        }
    }

    private void check(String what, Call got, Call due) {
        long a = answer(got);
        long b = answer(due);
        log.append("  ").append(what).append(" -> ").append(a).append('\n');
        boolean rows = m.row.size() == x.count(4);
        for (int i = 0; rows && i < m.row.size(); i++) {
            rows = m.row.get(i) == x.row(i);
        }
        if (a != b || !rows) {
            wrong = true;
            System.out.println("run " + run + ":\n" + log + "  due is " + b + ", row " + m.row);
        }
    }

    private void go() {
        int texts = random.nextInt(12) == 0 ? 0 : 3;
        for (int i = 0; i < texts; i++) {
            typeTown();
        }
        for (int i = 0; i < CALLS && !wrong; i++) {
            call(random.nextInt(60));
        }
    }

    // ---- what calls are told: mostly what there is, sometimes a little beside it

    private int about(int there) {
        int r = random.nextInt(40);
        return r == 0 ? -1 : r == 1 ? there : r == 2 ? Integer.MIN_VALUE : r == 3 ? Integer.MAX_VALUE
                : random.nextInt(Math.max(1, there));
    }

    private int s() {
        return about(m.streets.size());
    }

    private int o() {
        return about(m.orders.size());
    }

    private int l() {
        return about(m.letters.size());
    }

    private long d() {
        switch (random.nextInt(20)) {
            case 0:
                return -1;
            case 1:
                return Model.LAST + 1;
            case 2:
                return Model.LAST;
            case 3:
                return Long.MAX_VALUE;
            case 4:
                return Long.MIN_VALUE;
            case 5:
            case 6:
                return Model.LAST - random.nextInt(1000);
            case 7:
            case 8:
                return (long) (random.nextDouble() * Model.LAST);
            case 9:
            case 10:
                return Math.max(0, m.today + random.nextInt(200) - 100);
            default:
                return random.nextInt(30);
        }
    }

    private int mask(int there, int most) {
        if (random.nextInt(25) == 0) {
            return random.nextBoolean() ? 1 << there : random.nextInt();
        }
        int mask = 0;
        for (int i = 0; i < most; i++) {
            mask |= random.nextInt(3) > 0 && there > 0 ? 1 << random.nextInt(there) : 0;
        }
        return mask;
    }

    private void type(String text) {
        check("end(0)", () -> x.end(0) ? 1 : 0, () -> m.end(0) ? 1 : 0);
        for (int i = 0; i < text.length(); i += 4) {
            int v = 0;
            for (int j = i; j < i + 4; j++) {
                v = v << 8 | (j < text.length() ? text.charAt(j) : 0);
            }
            int w = v;
            check("sign(" + w + ")", () -> x.sign(w), () -> m.sign(w));
        }
        int n = text.length();
        check("end(" + n + ") of " + text, () -> x.end(n) ? 1 : 0, () -> m.end(n) ? 1 : 0);
    }

    private String spoilt(String text, String signs) {
        if (random.nextInt(5) > 0 || text.isEmpty()) {
            return text;
        }
        int p = random.nextInt(text.length());
        char c = signs.charAt(random.nextInt(signs.length()));
        switch (random.nextInt(3)) {
            case 0:
                return text.substring(0, p) + c + text.substring(p + 1);
            case 1:
                return text.substring(0, p) + c + text.substring(p);
            default:
                return text.substring(0, p) + text.substring(p + 1);
        }
    }

    private void typeTown() {
        StringBuilder t = new StringBuilder();
        int streets = m.streets.size();
        int lines = 1 + random.nextInt(9);
        for (int i = 0; i < lines; i++) {
            t.append(i > 0 ? ";" : "");
            if (streets < mostStreets && random.nextInt(3) > 0) {
                t.append(randomStreet());
                streets++;
            } else {
                t.append('o').append(randomCycles(streets));
            }
        }
        String text = spoilt(t.toString(), "0129-,;o.abclm\u00e9");
        if (text.length() > 80 || text.length() > 76 && random.nextBoolean()) {
            int end = random.nextInt(3) == 0 ? Math.min(80, text.length()) : Math.max(0, text.lastIndexOf(';', 76));
            text = text.substring(0, end);
        }
        type(text);
        check("town()", x::town, m::town);
    }

    private String randomStreet() {
        int places = 3 + random.nextInt(8);
        int first = random.nextInt(places);
        int other = (first + 1 + random.nextInt(places - 1)) % places;
        int length = 1 + random.nextInt(20);
        boolean odd = random.nextInt(60) == 0;
        return (first % 10) + "-" + (odd ? first % 10 : other % 10 == first % 10 ? (first + 1) % 10 : other % 10) + ","
                + (random.nextInt(15) == 0 ? "0" : "") + (random.nextInt(60) == 0 ? random.nextInt(120) : length);
    }

    private String randomCycles(int streets) {
        StringBuilder t = new StringBuilder();
        java.util.List<Integer> left = new java.util.ArrayList<>();
        for (int s = 0; s < streets; s++) {
            left.add(s);
        }
        java.util.Collections.shuffle(left, random);
        int named = left.isEmpty() ? 0 : random.nextInt(left.size() + 1);
        for (int i = 0; i < named; i++) {
            t.append(i > 0 && random.nextInt(4) == 0 ? "." : "").append((char) ('a' + left.get(i)));
        }
        return t.toString();
    }

    private String expression(int depth) {
        String t = sum(depth);
        return random.nextInt(4) == 0 ? t + "<>=".charAt(random.nextInt(3)) + sum(depth) : t;
    }

    private String sum(int depth) {
        StringBuilder t = new StringBuilder(thing(depth));
        while (random.nextInt(2) == 0) {
            t.append("+-*/%+-*".charAt(random.nextInt(8))).append(thing(depth));
        }
        return t.toString();
    }

    private String thing(int depth) {
        String minus = random.nextInt(5) == 0 ? random.nextBoolean() ? "-" : "--" : "";
        int r = random.nextInt(8);
        if (r == 0 && depth < 5) {
            return minus + "(" + expression(depth + 1) + ")";
        }
        return minus + (r < 4 ? "" + random.nextInt(random.nextBoolean() ? 12 : 1100)
                : "" + "aknswo".charAt(random.nextInt(6)));
    }

    private void typeRule() {
        String t = spoilt(expression(0), "0129aknswo+-*/%<>=()x;\u00ff");
        while (random.nextInt(6) == 0 && t.length() < 40) {
            t = "(" + t + ")+" + t;
        }
        t = random.nextInt(12) == 0 ? "" : t;
        type(t.length() > 80 ? t.substring(0, 80) : t);
        check("rule()", x::rule, m::rule);
    }

    // ---- calls

    private void call(int which) {
        int s = s();
        int t = s();
        int o = o();
        int l = l();
        long d = d();
        long e = d();
        int late = random.nextInt(30) == 0 ? 100 : random.nextInt(30) == 0 ? -1 : random.nextInt(100);
        int place = random.nextInt(30) == 0 ? 10 : random.nextInt(30) == 0 ? -1 : random.nextInt(10);
        if (which < 15) {
            callTown(which, s, o, d);
        } else if (which < 36) {
            callNames(which, s, t, o, l, d, e);
        } else if (which < 46) {
            callPost(which, s, l, late, place);
        } else {
            callCouncil(which, s, o);
        }
    }

    private void callTown(int which, int s, int o, long d) {
        int what = random.nextInt(8) - 1;
        switch (which) {
            case 0:
                if (random.nextInt(3) == 0) {
                    typeTown();
                }
                break;
            case 1:
            case 2:
                check("street(" + s + ", " + what + ")", () -> x.street(s, what), () -> m.street(s, what));
                break;
            case 3:
                check("next(" + o + ", " + s + ")", () -> x.next(o, s), () -> m.next(o, s));
                break;
            case 4:
                int kind = random.nextInt(6) - 1;
                int n = random.nextInt(16) - 2;
                int f = random.nextBoolean() ? random.nextInt(25) : random.nextInt();
                int step = random.nextBoolean() ? random.nextInt(9) - 4 : random.nextInt();
                check("sheet(" + kind + ", " + n + ", " + f + ", " + step + ")",
                        () -> x.sheet(kind, n, f, step), () -> m.sheet(kind, n, f, step));
                break;
            case 5:
                int a = random.nextInt(12) - 1;
                int b = random.nextInt(12) - 1;
                check("far(" + a + ", " + b + ")", () -> x.far(a, b), () -> m.far(a, b));
                break;
            case 6:
            case 7:
                long by = random.nextInt(4) == 0 ? d : random.nextInt(12);
                check("pass(" + by + ")", () -> x.pass(by), () -> m.pass(by));
                break;
            case 8:
            case 9:
                typeRule();
                break;
            case 10:
                check("today()", x::today, () -> m.today);
                break;
            case 11:
                check("count(" + what + ")", () -> x.count(what), () -> m.count(what));
                break;
            case 12:
                int i = random.nextInt(14) - 1;
                check("row(" + i + ")", () -> x.row(i), () -> m.row(i));
                break;
            case 13:
                check("keep(" + what + ")", () -> x.keep(what) ? 1 : 0, () -> m.keep(what) ? 1 : 0);
                break;
            default:
                check("again(" + what + ")", () -> x.again(what) ? 1 : 0, () -> m.again(what) ? 1 : 0);
        }
    }

    private void callNames(int which, int s, int t, int o, int l, long d, long e) {
        long span = random.nextInt(20) == 0 ? random.nextInt(1200) : random.nextInt(20) == 0 ? 60 : random.nextInt(60);
        int shift = random.nextInt(9) - 1;
        int n = random.nextInt(15) - 1;
        switch (which) {
            case 15:
                check("name(" + s + ", " + d + ")", () -> x.name(s, d), () -> m.name(s, d));
                break;
            case 16:
                check("where(" + s + ", " + d + ")", () -> x.where(s, d), () -> m.where(s, d));
                break;
            case 17:
                check("same(" + d + ", " + e + ")", () -> x.same(d, e), () -> m.same(d, e));
                break;
            case 18:
                check("period()", x::period, m::period);
                break;
            case 19:
                check("meets(" + s + ", " + t + ", " + d + ")", () -> x.meets(s, t, d), () -> m.meets(s, t, d));
                break;
            case 20:
                check("trade(" + s + ", " + t + ", " + d + ")", () -> x.trade(s, t, d), () -> m.trade(s, t, d));
                break;
            case 21:
                check("bears(" + s + ")", () -> x.bears(s), () -> m.bears(s));
                break;
            case 22:
                check("often(" + s + ", " + t + ", " + d + ")", () -> x.often(s, t, d), () -> m.often(s, t, d));
                break;
            case 23:
                check("quiet()", x::quiet, m::quiet);
                break;
            case 24:
            case 25:
                check("letter(" + s + ", " + d + ")", () -> x.letter(s, d), () -> m.letter(s, d));
                break;
            case 26:
                check("home(" + l + ")", () -> x.home(l), () -> m.home(l));
                break;
            case 27:
                long to = random.nextInt(4) == 0 ? e : d + span;
                check("means(" + s + ", " + d + ", " + to + ")", () -> x.means(s, d, to), () -> m.means(s, d, to));
                break;
            case 28:
                check("smudge(" + s + ", " + o + ")", () -> x.smudge(s, o), () -> m.smudge(s, o));
                break;
            case 29:
                check("misread(" + l + ", " + shift + ")", () -> x.misread(l, shift), () -> m.misread(l, shift));
                break;
            case 30:
                check("shifts(" + l + ")", () -> x.shifts(l), () -> m.shifts(l));
                break;
            case 31:
                check("asks(" + s + ", " + d + ", " + (d + span) + ")",
                        () -> x.asks(s, d, d + span), () -> m.asks(s, d, d + span));
                break;
            case 32:
                check("answer(" + l + ", " + s + ")", () -> x.answer(l, s), () -> m.answer(l, s));
                break;
            case 33:
                check("cycles(" + o + ")", () -> x.cycles(o), () -> m.cycles(o));
                break;
            case 34:
                check("roots(" + o + ", " + n + ")", () -> x.roots(o, n), () -> m.roots(o, n));
                break;
            default:
                check("mends(" + d + ")", () -> x.mends(d), () -> m.mends(d));
        }
    }

    private void callPost(int which, int s, int l, int late, int place) {
        int n = random.nextInt(8) == 0 ? random.nextInt(1005) - 1 : random.nextInt(34) - 1;
        switch (which) {
            case 36:
                check("carries(" + l + ", " + late + ")", () -> x.carries(l, late), () -> m.carries(l, late));
                break;
            case 37:
                check("best(" + l + ")", () -> x.best(l), () -> m.best(l));
                break;
            case 38:
                check("days(" + l + ", " + late + ", " + n + ")", () -> x.days(l, late, n), () -> m.days(l, late, n));
                break;
            case 39:
                check("postman(" + n + ")", () -> x.postman(n), () -> m.postman(n));
                break;
            case 40:
                check("travels(" + l + ", " + late + ")", () -> x.travels(l, late), () -> m.travels(l, late));
                break;
            case 41:
                int minutes = random.nextInt(30) == 0 ? 1000 : random.nextInt(30);
                int letters = mask(m.letters.size(), random.nextInt(10) == 0 ? 9 : 4);
                check("round(" + place + ", " + letters + ", " + minutes + ")",
                        () -> x.round(place, letters, minutes), () -> m.round(place, letters, minutes));
                break;
            case 42:
                int k = random.nextInt(10) == 0 ? random.nextInt() : random.nextInt(12);
                check("late(" + l + ", " + k + ", " + s + ")", () -> x.late(l, k, s), () -> m.late(l, k, s));
                break;
            case 43:
                check("sends(" + l + ")", () -> x.sends(l), () -> m.sends(l));
                break;
            case 44:
                int streets = mask(m.streets.size(), random.nextInt(6) == 0 ? 12 : 6);
                check("walk(" + place + ", " + streets + ")", () -> x.walk(place, streets),
                        () -> m.walk(place, streets));
                break;
            default:
                int some = mask(m.letters.size(), 12);
                check("meet(" + some + ")", () -> x.meet(some), () -> m.meet(some));
        }
    }

    private void callCouncil(int which, int s, int o) {
        int wishes = mask(m.wishes.size(), 6);
        int p = o();
        switch (which) {
            case 46:
            case 47:
                int sort = random.nextInt(20) == 0 ? random.nextInt(7) - 1 : random.nextInt(4);
                int number = sort == 1 || sort == 2 ? random.nextInt(15) - 1 : s();
                check("wish(" + sort + ", " + s + ", " + number + ")",
                        () -> x.wish(sort, s, number), () -> m.wish(sort, s, number));
                break;
            case 48:
                check("kept()", x::kept, m::kept);
                break;
            case 49:
                check("choose(" + wishes + ")", () -> x.choose(wishes), () -> m.choose(wishes));
                break;
            case 50:
                if (random.nextInt(4) == 0) {
                    check("proof()", x::proof, m::proof);
                }
                break;
            case 51:
                if (random.nextInt(4) == 0) {
                    check("decree(" + wishes + ")", () -> x.decree(wishes), () -> m.decree(wishes));
                }
                break;
            case 52:
                check("swap(" + o + ", " + p + ")", () -> x.swap(o, p) ? 1 : 0, () -> m.swap(o, p) ? 1 : 0);
                break;
            case 53:
                check("soonest()", x::soonest, m::soonest);
                break;
            default:
                check("today()", x::today, () -> m.today);
        }
    }
}
