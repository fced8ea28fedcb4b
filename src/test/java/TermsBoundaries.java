/** Boundaries that the document's Terms 1 and 2 name. Answers are reckoned by hand. */
final class TermsBoundaries {
    private final Sentences s;

    private TermsBoundaries(Sentences sentences) {
        s = sentences;
    }

    static void all(Sentences sentences) {
        TermsBoundaries t = new TermsBoundaries(sentences);
        t.calls();
        t.places();
        t.streets();
        t.orders();
        t.nights();
        t.townText();
        t.lines();
        t.farAndDays();
        t.letters();
        t.ruleText();
        t.ruleReckons();
        t.ruleThings();
        t.daysAgo();
        t.ints();
        t.wishes();
        t.wishSorts();
        t.rows();
        t.refusedOfTown();
        t.refusedOfLetters();
        t.refusedOfPostmen();
        t.refusedOfCouncil();
    }

    /** STREETS a, b, .. from PLACE 0 to 1, 1 long. */
    static String streets(int n) {
        return "0-1,1;".repeat(n).substring(0, 6 * n - 1);
    }

    static StreetsStepOn town() {
        return Due.built(Seen.TOWN);
    }

    private void calls() {
        s.of(Sentences.WHOLE, "An object is used for at most 512 calls after it has been made");
        StreetsStepOn x = new StreetsStepOn();
        for (int i = 0; i < 511; i++) {
            x.pass(1);
        }
        s.is("the 512th call", x.today(), 511);
    }

    // ---- Terms 1

    private void places() {
        s.of("Terms 1", "PLACES 0 .. 9.");
        s.is("0 to 9", Due.town(new StreetsStepOn(), "0-9,1"), 1);
        s.is("9 to 0", Due.town(new StreetsStepOn(), "9-0,1"), 1);
        s.is("the sign below 0", Due.town(new StreetsStepOn(), "/-1,1"), -1);
        s.is("the sign above 9", Due.town(new StreetsStepOn(), ":-1,1"), -1);
        s.is("below 0, the other one", Due.town(new StreetsStepOn(), "1-/,1"), -3);
        s.is("above 9, the other one", Due.town(new StreetsStepOn(), "1-:,1"), -3);
        s.is("two digits are no place", Due.town(new StreetsStepOn(), "10-1,1"), -2);
        s.is("two digits are no place, the other one", Due.town(new StreetsStepOn(), "0-10,1"), -4);
    }

    private void streets() {
        s.of("Terms 1", "STREETS 0 .. (at most 12; written a .. l)");
        StreetsStepOn x = Due.built(streets(11));
        s.is("l before it is there", Due.town(x, "ol"), -2);
        s.is("the 12th", Due.town(x, "3-4,5"), 1);
        s.is("there are", x.count(0), 12);
        s.is("the 13th", Due.town(x, "0-1,1"), -1);
        s.is("there still are", x.count(0), 12);
        s.is("a and l", Due.town(x, "oal"), 1);
        s.is("the sign below a", Due.town(x, "o`"), -2);
        s.is("the sign above l", Due.town(x, "om"), -2);
        s.is("A is not a", Due.town(x, "oA"), -2);
        s.is("street 11", x.street(11, 2), 5);
        s.throwsNone("street 12", () -> x.street(12, 2));
        s.throwsNone("street -1", () -> x.street(-1, 2));
        s.of("Terms 1", "from a PLACE to another one, with a LENGTH 1 .. 20");
        s.is("to itself", Due.town(new StreetsStepOn(), "3-3,1"), -3);
        s.is("to the one below", Due.town(new StreetsStepOn(), "3-2,1"), 1);
        s.is("to the one above", Due.town(new StreetsStepOn(), "3-4,1"), 1);
        s.is("length 0", Due.town(new StreetsStepOn(), "0-1,0"), -5);
        s.is("length 1", Due.built("0-1,1").street(0, 2), 1);
        s.is("length 20", Due.built("0-1,20").street(0, 2), 20);
        s.is("length 21", Due.town(new StreetsStepOn(), "0-1,21"), -6);
        s.of("Terms 1", "one goes both ways; its HOUSE is at its first PLACE");
        StreetsStepOn one = Due.built("3-7,5");
        s.is("from the first", one.far(3, 7), 5);
        s.is("from the other", one.far(7, 3), 5);
        s.is("the house from the first", one.walk(3, 1), 0);
        s.is("the house from the other", one.walk(7, 1), 5);
        s.of("Terms 1", "on DAY 0 each bears its own");
        StreetsStepOn all = Due.built(streets(12));
        Due.town(all, "oabcdefghijkl");
        for (int i = 0; i < 12; i++) {
            s.is("street " + i + " on day 0", all.name(i, 0), i);
            s.is("street " + i + " on day 1", all.name(i, 1), (i + 1) % 12);
        }
    }

    private void orders() {
        s.of("Terms 1", "ORDERS 0 .. (at most 7) of the week");
        StreetsStepOn x = Due.built("0-1,1;o;o;o;o;o;o");
        s.is("the 7th", Due.town(x, "oa"), 1);
        s.is("there are", x.count(1), 7);
        s.is("the 8th", Due.town(x, "o"), -1);
        s.is("there still are", x.count(1), 7);
        s.is("order 0", x.next(0, 0), 0);
        s.is("order 6", x.next(6, 0), 0);
        s.is("order 7", x.next(7, 0), -1);
        s.is("order -1", x.next(-1, 0), -1);
        StreetsStepOn empty = new StreetsStepOn();
        s.is("8 at once", Due.town(empty, "o;o;o;o;o;o;o;o"), -1 - 14);
        s.is("none of 8 came", empty.count(1), 0);
        s.is("7 at once", Due.town(empty, "o;o;o;o;o;o;o"), 7);
    }

    private void nights() {
        s.of("Terms 1", "As DAY d begins (d above 0), by ORDER (d less 1) % ORDERS");
        StreetsStepOn first = Due.built("0-1,1;0-1,1;oab;o;o;o;o;o;o");
        s.is("order 0: day 0", first.name(0, 0), 0);
        s.is("order 0: day 1", first.name(0, 1), 1);
        s.is("order 0: day 7", first.name(0, 7), 1);
        s.is("order 0: day 8, the week again", first.name(0, 8), 0);
        StreetsStepOn last = Due.built("0-1,1;0-1,1;o;o;o;o;o;o;oab");
        s.is("order 6: day 6", last.name(0, 6), 0);
        s.is("order 6: day 7", last.name(0, 7), 1);
        s.is("order 6: day 8", last.name(0, 8), 1);
        s.is("order 6: day 13", last.name(0, 13), 1);
        s.is("order 6: day 14", last.name(0, 14), 0);
        s.of("Terms 1", "each STREET takes the NAME that its NEXT one bore on the DAY ahead");
        StreetsStepOn three = Due.built("0-1,1;0-1,1;0-1,1;oabc");
        s.is("a takes b's", three.name(0, 1), 1);
        s.is("c, the last, takes a's", three.name(2, 1), 0);
        s.is("a takes c's through b", three.name(0, 2), 2);
        s.of("Terms 1", "Without ORDERS NAMES stay.");
        StreetsStepOn still = Due.built(streets(2));
        s.is("day 1", still.name(1, 1), 1);
        s.is("the last day", still.name(1, Sentences.LAST), 1);
        s.is("where", still.where(0, Sentences.LAST), 0);
        s.of("Terms 1", "A STREET told later stays by ORDERS told ahead.");
        StreetsStepOn later = Due.built("0-1,1;0-1,1;oab");
        Due.town(later, "0-1,1;oca");
        s.is("c by the order ahead", later.next(0, 2), 2);
        s.is("c by the order behind", later.next(1, 2), 0);
        s.is("c on day 1", later.name(2, 1), 2);
        s.is("c on day 2 bears what a bore on day 1", later.name(2, 2), 1);
        Due.town(later, streets(9));
        s.is("l by the order ahead", later.next(0, 11), 11);
    }

    private void townText() {
        s.of("Terms 1", "THE TOWN is a text of at most 76 signs: LINES with ; between");
        String of76 = "0-1,10;" + streets(11) + ";o;o";
        s.is("76 signs are typed", of76.length(), 76);
        s.is("76", Due.town(new StreetsStepOn(), of76), 14);
        s.is("77", Due.town(new StreetsStepOn(), of76 + "a"), -77);
        s.is("; ahead of all", Due.town(new StreetsStepOn(), ";o"), -1);
        s.is("; twice", Due.town(new StreetsStepOn(), "o;;o"), -3);
        s.is("; behind all", Due.town(new StreetsStepOn(), "o;"), -3);
        s.of("Terms 1", "what they tell comes behind what there is");
        StreetsStepOn x = Due.built("0-1,3;o");
        Due.town(x, "4-5,6;oba");
        s.is("the first is as it was", x.street(0, 2), 3);
        s.is("the second", x.street(1, 2), 6);
        s.is("order 0 is as it was", x.next(0, 0), 0);
        s.is("order 1", x.next(1, 0), 1);
        s.of("Terms 1", "a comma, LENGTH (1 or 2 digits)");
        s.is("no digit", Due.town(new StreetsStepOn(), "0-1,"), -5);
        s.is("1 digit", Due.built("0-1,9").street(0, 2), 9);
        s.is("2 digits", Due.built("0-1,10").street(0, 2), 10);
        s.is("2 digits, the first 0", Due.built("0-1,09").street(0, 2), 9);
        s.is("3 digits", Due.town(new StreetsStepOn(), "0-1,100"), -7);
        s.is("3 digits, the first 0", Due.town(new StreetsStepOn(), "0-1,010"), -7);
    }

    private void orderLine(String text, int want) {
        s.is(text, Due.town(Due.built(streets(3)), text), want);
    }

    private void lines() {
        s.of("Terms 1", "an ORDER: o, and perhaps CYCLES with . between");
        orderLine("o", 1);
        orderLine("oa", 1);
        orderLine("oa.bc", 1);
        orderLine("o.a", -2);
        orderLine("oa..b", -4);
        orderLine("oa.", -4);
        orderLine("oa,b", -3);
        s.of("Terms 1", "each of one or more STREETS there are, each once in all");
        orderLine("oabc", 1);
        orderLine("oa.b.c", 1);
        orderLine("od", -2);
        orderLine("oabcd", -5);
        orderLine("oaa", -3);
        orderLine("oaba", -4);
        orderLine("oab.a", -5);
        orderLine("oa;oa", 2);
        s.of("Terms 1", "the NEXT of each is the one behind it, of the last the first one");
        StreetsStepOn x = Due.built("0-1,1;0-1,1;0-1,1;oca.b;obca");
        s.is("c to a", x.next(0, 2), 0);
        s.is("a, the last, to c", x.next(0, 0), 2);
        s.is("b alone", x.next(0, 1), 1);
        s.is("b to c", x.next(1, 1), 2);
        s.is("c to a", x.next(1, 2), 0);
        s.is("a, the last, to b", x.next(1, 0), 1);
        s.of("Terms 1", "STREETS that are not named stay (each its own NEXT)");
        StreetsStepOn y = Due.built("0-1,1;0-1,1;0-1,1;o;oac");
        s.is("none is named", y.cycles(0), 0);
        s.is("b is not", y.next(1, 1), 1);
        s.is("a is", y.next(1, 0), 2);
    }

    private void farAndDays() {
        s.of("Terms 1", "FAR of two PLACES: the least sum of LENGTHS (999: no way; to itself 0).");
        StreetsStepOn x = Due.built("0-1,20;1-2,20;2-3,20;3-4,20;4-5,20;5-6,20;6-7,20;7-8,20;8-9,20");
        s.is("the longest way there can be", x.far(0, 9), 180);
        s.is("to itself", x.far(9, 9), 0);
        Due.town(x, "0-9,20;0-9,19");
        s.is("the shorter of two", x.far(0, 9), 19);
        s.is("round about is longer", x.far(0, 1), 20);
        s.is("round about is shorter", x.far(0, 5), 99);
        s.is("no way", Due.built("0-1,1").far(1, 2), 999);
        s.is("to itself, without a street", new StreetsStepOn().far(0, 0), 0);
        s.is("no way, without a street", new StreetsStepOn().far(0, 9), 999);
        s.of("Terms 1", "DAYS 0 .. 1000000000000; TODAY (at first 0).");
        StreetsStepOn y = town();
        s.is("at first", y.today(), 0);
        s.is("day -1", y.name(0, -1), -1);
        s.is("day 0", y.name(0, 0), 0);
        s.is("the last day", y.name(0, Sentences.LAST), 2);
        s.is("behind the last day", y.name(0, Sentences.LAST + 1), -1);
        s.is("to the last day", y.pass(Sentences.LAST), 0);
        s.is("and no farther", y.pass(1), -1);
        s.is("today", y.today(), Sentences.LAST);
    }

    // ---- Terms 2

    private void letters() {
        s.of("Terms 2", "LETTERS 0 .. (at most 12): a NAME and the DAY of its writing");
        StreetsStepOn x = town();
        s.is("no letter yet", x.home(0), -1);
        for (int i = 0; i < 12; i++) {
            s.is("letter", x.letter(0, i), i);
        }
        s.is("one more", x.letter(0, 0), -1);
        s.is("the last", x.home(11), 0);
        s.is("behind the last", x.home(12), -1);
        s.of("Terms 2", "its HOME is the STREET that bore the NAME on that DAY");
        s.is("name 0 of day 0", x.home(0), 0);
        s.is("name 0 of day 1", x.home(1), 1);
        s.is("name 0 of day 2", x.home(2), 2);
        s.is("name 0 of day 6", x.home(6), 0);
    }

    private static StreetsStepOn oneLetter() {
        StreetsStepOn x = town();
        x.letter(1, 0);
        return x;
    }

    private void value(String text, int want) {
        StreetsStepOn x = oneLetter();
        s.is(text + " is read", Due.rule(x, text), 0);
        s.is(text, x.late(0, 2, 0), want);
    }

    private void fault(String text, int p) {
        StreetsStepOn x = oneLetter();
        s.is(text, Due.rule(x, text), -1 - p);
        s.is(text + ": no rule", x.late(0, 2, 0), 0);
    }

    private void ruleText() {
        s.of("Terms 2", "THE RULE is a text of at most 40 signs (at first none: 0)");
        s.is("at first", oneLetter().late(0, 9, 2), 0);
        String of40 = "1+".repeat(19) + "11";
        s.is("40 signs are typed", of40.length(), 40);
        value(of40, 30);
        fault(of40 + "1", 40);
        s.of("Terms 2", "< > = bind least (two; 1 or 0; not one behind the other)");
        value("1<2", 1);
        value("2<2", 0);
        value("3<2", 0);
        value("1>2", 0);
        value("2>2", 0);
        value("3>2", 1);
        value("1=2", 0);
        value("2=2", 1);
        value("3=2", 0);
        value("(2<1)+5", 5);
        value("(1>2)+5", 5);
        value("(1=2)+5", 5);
        value("1+1<3", 1);
        value("3>1+1", 1);
        value("2=1*2", 1);
        value("1<2*9", 1);
        fault("<1", 0);
        fault("1<", 2);
        fault("1<2<3", 3);
        fault("1<2>3", 3);
        fault("1=2=3", 3);
        fault("1>=2", 2);
        fault("(1<2=1)", 4);
        value("(1<2)=1", 1);
        value("(1<2)<(1<3)", 0);
        value("5+(1<2)*9", 14);
        s.of("Terms 2", "then + - (from the left), then * / % (from the left; by 0: 0; "
                + "/ cut to 0, % with the sign of the first)");
        value("9-5-3", 1);
        value("9-5+3", 7);
        value("2+3*4", 14);
        value("3*4+2", 14);
        value("40/4/5", 2);
        value("40/4*5", 50);
        value("17%5*3", 6);
        value("3*17%5", 1);
        value("7/0+5", 5);
        value("7%0+5", 5);
        value("7/(2-2)+5", 5);
        value("7%(2-2)+5", 5);
        value("0/7+5", 5);
        value("7/1", 7);
        value("7/-1+9", 2);
        value("(0-7)/2+9", 6);
        value("7/(0-2)+9", 6);
        value("(0-7)/(0-2)", 3);
        value("(0-7)%3+9", 8);
        value("7%(0-3)+9", 10);
        value("(0-7)%(0-3)+9", 8);
        value("6%3+9", 9);
        fault("+1", 0);
        fault("1+", 2);
        fault("1+*2", 2);
        fault("1*", 2);
    }

    private void ruleReckons() {
        s.of("Terms 2", "then - ahead of a thing (any many)");
        value("-1+5", 4);
        value("--5", 5);
        value("9--5", 14);
        value("9---5", 4);
        value("2*-3+9", 3);
        value("-2*3+9", 3);
        value("-7%3+9", 8);
        value("-(2-5)", 3);
        value("-".repeat(38) + "5", 5);
        value("-".repeat(39) + "5", 0);
        fault("-".repeat(40) + "5", 40);
        fault("-", 1);
        fault("-".repeat(40), 40);
        fault("5-", 2);
        s.of("Terms 2", "a NUMBER of 1 to 3 digits");
        value("7", 7);
        value("77", 77);
        value("777-700", 77);
        value("007", 7);
        value("000", 0);
        fault("7777", 3);
        fault("0007", 3);
        fault("1+0007", 5);
        s.of("Terms 2", "an EXPRESSION in ( ) (at most 4 in one another)");
        value("((((5))))", 5);
        value("(((1)))+((((1))))", 2);
        value("((((1)))+(((1))))", 2);
        fault("(((((5)))))", 4);
        fault("1+(((((", 6);
        fault("((((1)))+((((1))))", 12);
        fault("()", 1);
        fault("(5", 2);
        fault("(5))", 3);
    }

    private void ruleThings() {
        s.of("Terms 2", "k how often it was carried so far, n its NAME");
        StreetsStepOn x = town();
        x.letter(2, 3);
        Due.rule(x, "k");
        s.is("k 0", x.late(0, 0, 0), 0);
        s.is("k 99", x.late(0, 99, 0), 99);
        Due.rule(x, "n");
        s.is("n", x.late(0, 0, 0), 2);
        s.of("Terms 2", "s the STREET where it lies (at first its NAME)");
        x.pass(5);
        Due.rule(x, "s");
        s.is("at first 2: of day 3, at home", x.sends(0), 0);
        s.of("Terms 2", "w the ORDER of the week for the next midnight (0 without ORDERS), o how many ORDERS");
        StreetsStepOn still = Due.built("0-1,1");
        still.letter(0, 0);
        still.pass(9);
        Due.rule(still, "w");
        s.is("w without orders", still.late(0, 0, 0), 0);
        Due.rule(still, "o+5");
        s.is("o without orders", still.late(0, 0, 0), 5);
        StreetsStepOn week = Due.built("0-1,1;o;o;o;o;o;o;o");
        week.letter(0, 0);
        Due.rule(week, "o");
        s.is("o 7", week.late(0, 0, 0), 7);
        Due.rule(week, "w");
        s.is("w on day 0", week.late(0, 0, 0), 0);
        week.pass(6);
        s.is("w on day 6", week.late(0, 0, 0), 6);
        week.pass(1);
        s.is("w on day 7", week.late(0, 0, 0), 0);
    }

    private void daysAgo() {
        s.of("Terms 2", "a how many DAYS ago the LETTER was written, at most 9999 (below 0: later, at least -9999)");
        StreetsStepOn x = Due.built("0-1,1");
        x.letter(0, 0);
        x.letter(0, 1);
        Due.rule(x, "a+5");
        s.is("today", x.late(0, 0, 0), 5);
        s.is("a day later", x.late(1, 0, 0), 4);
        x.pass(1);
        s.is("a day ago", x.late(0, 0, 0), 6);
        x.pass(9997);
        Due.rule(x, "a-999*10");
        s.is("9998", x.late(0, 0, 0), 8);
        x.pass(1);
        s.is("9999", x.late(0, 0, 0), 9);
        x.pass(1);
        s.is("10000", x.late(0, 0, 0), 9);
        x.pass(Sentences.LAST - 10000);
        s.is("the last day", x.late(0, 0, 0), 9);
        StreetsStepOn y = Due.built("0-1,1");
        y.letter(0, 9998);
        y.letter(0, 9999);
        y.letter(0, 10000);
        y.letter(0, Sentences.LAST);
        Due.rule(y, "a+999*10+14");
        s.is("-9998", y.late(0, 0, 0), 6);
        s.is("-9999", y.late(1, 0, 0), 5);
        s.is("-10000", y.late(2, 0, 0), 5);
        s.is("the last day is later", y.late(3, 0, 0), 5);
    }

    private void ints() {
        s.of("Terms 2", "As ints, put to 0 .. 99.");
        value("0-1", 0);
        value("0", 0);
        value("1", 1);
        value("98", 98);
        value("99", 99);
        value("100", 99);
        StreetsStepOn x = oneLetter();
        int most = Integer.MAX_VALUE;
        Due.rule(x, "k");
        s.is("the greatest int", x.late(0, most, 0), 99);
        Due.rule(x, "k+1");
        s.is("one more is below 0", x.late(0, most, 0), 0);
        Due.rule(x, "k+1<0");
        s.is("one more is below 0, compared", x.late(0, most, 0), 1);
        Due.rule(x, "-(k+1)<0");
        s.is("the least int, - ahead", x.late(0, most, 0), 1);
        Due.rule(x, "(k+1)/-1<0");
        s.is("the least int by -1", x.late(0, most, 0), 1);
        Due.rule(x, "(k+1)%-1+5");
        s.is("the rest of it", x.late(0, most, 0), 5);
        Due.rule(x, "k*k+5");
        s.is("the greatest by itself is 1", x.late(0, most, 0), 6);
        Due.rule(x, "-k-2>0");
        s.is("below the least", x.late(0, most, 0), 1);
    }

    private void wishes() {
        s.of("Terms 2", "WISHES 0 .. (at most 6)");
        StreetsStepOn x = town();
        for (int i = 0; i < 6; i++) {
            s.is("wish", x.wish(3, 0, 0), i);
        }
        s.is("one more", x.wish(3, 0, 0), -1);
        s.is("there are", x.count(3), 6);
    }

    private void kept(String what, String townText, int sort, int street, int number, int want) {
        StreetsStepOn x = Due.built(streets(12));
        Due.town(x, townText);
        s.is(what, x.wish(sort, street, number), 0);
        s.is(what, x.kept(), want);
    }

    private void wishSorts() {
        String twelve = "oabcdefghijkl";
        s.of("Terms 2", "sort 0: a STREET never bears the NAME of another one (number)");
        kept("a and b, on the last of the week's days", "o;o;o;o;o;o;oab", 0, 0, 1, 0);
        kept("a and c", "o;o;o;o;o;o;oab", 0, 0, 2, 1);
        kept("a and b, on day 1 of 12", twelve, 0, 0, 1, 0);
        kept("a and l, on day 11 of 12", twelve, 0, 0, 11, 0);
        s.of("Terms 2", "1: it bears its own NAME again on DAY number (1 .. 12), or sooner");
        kept("on day 12 of 12", twelve, 1, 0, 12, 1);
        kept("on day 11 of 12", twelve, 1, 0, 11, 0);
        kept("on day 1, it stays", "o", 1, 0, 1, 1);
        kept("on day 1, it does not", "oab", 1, 0, 1, 0);
        kept("on day 2", "oab", 1, 0, 2, 1);
        kept("sooner than day 3", "oab", 1, 0, 3, 1);
        kept("day 0 is not again", "oabc", 1, 0, 2, 0);
        s.is("0", town().wish(1, 0, 0), -1);
        s.is("13", town().wish(1, 0, 13), -1);
        s.of("Terms 2", "2: on DAY number (1 .. 12) it does not bear its own");
        kept("on day 11 of 12", twelve, 2, 0, 11, 1);
        kept("on day 12 of 12", twelve, 2, 0, 12, 0);
        kept("on day 1, it stays", "o", 2, 0, 1, 0);
        kept("on day 1", "oab", 2, 0, 1, 1);
        kept("on day 3, own on day 2", "oab", 2, 0, 3, 1);
        s.is("0", town().wish(2, 0, 0), -1);
        s.is("13", town().wish(2, 0, 13), -1);
        s.of("Terms 2", "3: by each ORDER its NEXT is another one than the number "
                + "(of itself: another one than itself)");
        kept("by the first", "oab;o;o;o;o;o;o", 3, 0, 1, 0);
        kept("by the last of 7", "o;o;o;o;o;o;oab", 3, 0, 1, 0);
        kept("by none", "o;o;o;o;o;o;oab", 3, 0, 2, 1);
        kept("itself by the last of 7", "oab;oab;oab;oab;oab;oab;o", 3, 0, 0, 0);
        kept("itself by none", "oab;oac;oad", 3, 0, 0, 1);
        s.is("without orders", withoutOrders().kept(), 1);
    }

    private static StreetsStepOn withoutOrders() {
        StreetsStepOn x = Due.built(streets(2));
        x.wish(3, 0, 0);
        return x;
    }

    private void rows() {
        s.of("Terms 2", "ROW: numbers told last by a call that says so.");
        s.row("at first", new StreetsStepOn());
        StreetsStepOn x = Seen.busy();
        x.same(0, 6);
        tellNoRow(x);
        s.row("as same() told it", x, 7);
        s.of("Terms 2", "Rows of numbers are compared from the first on.");
        StreetsStepOn two = Due.built("4-5,1;7-5,2;3-4,1");
        s.is("a, c, b or b, a, c", two.walk(5, 7), 6);
        s.row("a, c, b or b, a, c", two, 0, 2, 1);
    }

    private static void tellNoRow(StreetsStepOn x) {
        x.sign(0);
        x.end(0);
        x.town();
        x.rule();
        x.street(0, 0);
        x.next(0, 0);
        x.sheet(2, 1, 1, 1);
        x.far(0, 1);
        x.pass(1);
        x.name(0, 0);
        x.where(0, 0);
        x.meets(0, 1, 0);
        x.trade(0, 1, 0);
        x.bears(0);
        x.often(0, 0, 9);
        x.letter(0, 0);
        x.misread(0, 0);
        x.answer(0, 0);
        x.best(0);
        x.late(0, 0, 0);
        x.wish(3, 1, 1);
        x.kept();
        x.swap(0, 1);
        x.keep(1);
        x.again(1);
        x.decree(1);
        x.count(4);
        x.today();
    }

    private static final String REFUSED = "Refused calls answer NONE, or false, and change nothing but THE TEXT, "
            + "which a call that reads it empties.";

    private void refusedOfTown() {
        s.of("Terms 2", REFUSED);
        s.refused("next", x -> x.next(2, 0));
        s.refused("sheet", x -> x.sheet(4, 1, 1, 1));
        s.refused("far", x -> x.far(0, 10));
        s.refused("pass", x -> x.pass(-1));
        s.refused("name", x -> x.name(3, 0));
        s.refused("where", x -> x.where(3, 0));
        s.refused("same", x -> x.same(0, -1));
        s.refused("meets", x -> x.meets(0, 3, 0));
        s.refused("trade", x -> x.trade(1, 1, 0));
        s.refused("bears", x -> x.bears(3));
        s.refused("often", x -> x.often(0, 0, 0));
        s.leaves("end", 0, x -> x.end(5) ? 1 : 0);
        s.leaves("end below 0", 0, x -> x.end(-1) ? 1 : 0);
        for (String text : new String[] {"", "x", "o", "4-5,1;oa;", "o".repeat(80)}) {
            StreetsStepOn x = Seen.busy();
            Due.town(x, text);
            s.is("the text is empty behind town of " + text, x.count(5), 0);
            Due.rule(x, text);
            s.is("the text is empty behind rule of " + text, x.count(5), 0);
        }
        s.is("a rule that is read", Due.rule(new StreetsStepOn(), "k"), 0);
        textAlone("4-5,1;oa;x");
    }

    /** A refused town() and a refused rule() change THE TEXT alone. */
    private void textAlone(String text) {
        StreetsStepOn x = Seen.busy();
        x.end(0);
        String before = Seen.all(x);
        Due.town(x, text);
        s.is("all but the text, behind town", Seen.all(x).equals(before), true);
        Due.rule(x, "k+");
        s.is("all but the text, behind rule", Seen.all(x).equals(before), true);
        s.is("no street was told", x.again(0), true);
    }

    private void refusedOfLetters() {
        s.of("Terms 2", REFUSED);
        s.refused("letter", x -> x.letter(3, 0));
        s.refused("home", x -> x.home(2));
        s.refused("means", x -> x.means(0, 1, 0));
        s.refused("smudge", x -> x.smudge(0, 2));
        s.refused("misread", x -> x.misread(0, 7));
        s.refused("shifts", x -> x.shifts(2));
        s.refused("asks", x -> x.asks(0, 1, 0));
        s.refused("answer", x -> x.answer(0, 3));
        s.refused("cycles", x -> x.cycles(2));
        s.refused("roots", x -> x.roots(0, 13));
        s.refused("mends", x -> x.mends(-1));
    }

    private void refusedOfPostmen() {
        s.of("Terms 2", REFUSED);
        s.refused("carries", x -> x.carries(0, 100));
        s.refused("best", x -> x.best(2));
        s.refused("days", x -> x.days(0, 0, 0));
        s.refused("postman", x -> x.postman(31));
        s.refused("travels", x -> x.travels(0, 100));
        s.refused("round", x -> x.round(0, 0, 1));
        s.refused("sends", x -> x.sends(2));
        s.refused("walk", x -> x.walk(0, 8));
        s.refused("meet", x -> x.meet(4));
        s.leavesAndThrows("late", x -> x.late(0, -1, 0));
        s.leavesAndThrows("street", x -> x.street(0, 4));
        s.leavesAndThrows("row", x -> x.row(1));
    }

    private void refusedOfCouncil() {
        s.of("Terms 2", REFUSED);
        s.refused("wish", x -> x.wish(0, 0, 0));
        s.refused("choose", x -> x.choose(4));
        s.refused("decree", x -> x.decree(4));
        s.refused("count", x -> x.count(6));
        s.leaves("swap", 0, x -> x.swap(0, 2) ? 1 : 0);
        s.leaves("keep", 0, x -> x.keep(2) ? 1 : 0);
        s.leaves("again", 0, x -> x.again(1) ? 1 : 0);
        StreetsStepOn one = Due.built("0-1,1;o");
        one.same(0, 0);
        s.is("soonest", one.soonest(), -1);
        s.row("soonest", one, 1);
        StreetsStepOn full = new StreetsStepOn();
        for (int i = 0; i < 20; i++) {
            full.sign(0x6F3B6F3B);
        }
        s.is("sign", full.sign(0), -1);
        s.is("sign left the text", full.count(5), 80);
    }
}
