/** Boundaries that promises 10 to 18 name. Answers are reckoned by hand. */
final class NamesBoundaries {
    private static final long LAST = Sentences.LAST;
    /** NAMES of a, b, c, d on DAYS 0 .. 3, then again: 0123, 1230, 3210, 2103. */
    static final String FOUR = "0-1,1;0-1,1;0-1,1;0-1,1;oabcd;oac";
    private final Sentences s;

    private NamesBoundaries(Sentences sentences) {
        s = sentences;
    }

    static void all(Sentences sentences) {
        NamesBoundaries t = new NamesBoundaries(sentences);
        t.p10();
        t.p11();
        t.p12();
        t.p13();
        t.p14();
        t.p15();
        t.p16();
        t.p17();
        t.p18();
    }

    /** 12 STREETS and some ORDERS. */
    static StreetsStepOn twelve(String orders) {
        StreetsStepOn x = Due.built(TermsBoundaries.streets(12));
        if (Due.town(x, orders) < 0) {
            throw new IllegalStateException("a test's orders can't be read: " + orders);
        }
        return x;
    }

    private void p10() {
        s.of("10", "NONE: none such.");
        s.leaves("a on day 0", 0, x -> x.name(0, 0));
        s.leaves("c on the last day", 1, x -> x.name(2, LAST));
        s.refused("street -1", x -> x.name(-1, 0));
        s.refused("street 3", x -> x.name(3, 0));
        s.refused("the greatest street", x -> x.name(Integer.MAX_VALUE, 0));
        s.refused("day -1", x -> x.name(0, -1));
        s.refused("behind the last day", x -> x.name(0, LAST + 1));
        s.refused("the least day", x -> x.name(0, Long.MIN_VALUE));
        s.refused("the greatest day", x -> x.name(0, Long.MAX_VALUE));
        s.is("no streets", new StreetsStepOn().name(0, 0), -1);
        s.is("the last of 12, on day 60 of 60", twelve("oabc.defg.hijkl").name(11, 60), 11);
        s.is("on day 59", twelve("oabc.defg.hijkl").name(11, 59), 10);
        s.is("on day 61", twelve("oabc.defg.hijkl").name(11, 61), 7);
    }

    private void p11() {
        s.of("11", "NONE: none such.");
        s.leaves("name 0 on day 0", 0, x -> x.where(0, 0));
        s.leaves("name 2 on the last day", 0, x -> x.where(2, LAST));
        s.refused("name -1", x -> x.where(-1, 0));
        s.refused("name 3", x -> x.where(3, 0));
        s.refused("the least name", x -> x.where(Integer.MIN_VALUE, 0));
        s.refused("day -1", x -> x.where(0, -1));
        s.refused("behind the last day", x -> x.where(0, LAST + 1));
        s.refused("the least day", x -> x.where(0, Long.MIN_VALUE));
        s.refused("the greatest day", x -> x.where(0, Long.MAX_VALUE));
        s.is("no streets", new StreetsStepOn().where(0, 0), -1);
        s.is("name 11 of 12, on day 59", twelve("oabc.defg.hijkl").where(11, 59), 7);
    }

    private void p12() {
        s.of("12", "How many STREETS bear on a DAY the NAME they bear on another one; the ROW: they (bits). "
                + "NONE: none such.");
        StreetsStepOn x = Due.built(Seen.TOWN);
        s.is("the first and the last day", x.same(0, LAST), 0);
        s.row("the first and the last day", x, 0);
        s.is("the last day and itself", x.same(LAST, LAST), 3);
        s.row("the last day and itself", x, 7);
        s.refused("day -1", y -> y.same(-1, 0));
        s.refused("other -1", y -> y.same(0, -1));
        s.refused("behind the last day", y -> y.same(LAST + 1, 0));
        s.refused("other behind the last day", y -> y.same(0, LAST + 1));
        s.refused("the least", y -> y.same(Long.MIN_VALUE, Long.MIN_VALUE));
        s.refused("the greatest", y -> y.same(Long.MAX_VALUE, Long.MAX_VALUE));
        StreetsStepOn all = twelve("oabcdefghijkl");
        s.is("12 streets", all.same(5, 17), 12);
        s.row("12 streets", all, 4095);
        StreetsStepOn empty = new StreetsStepOn();
        s.is("no streets", empty.same(0, LAST), 0);
        s.row("no streets", empty, 0);
    }

    private void period(String what, StreetsStepOn x, long day, long turn) {
        s.is(what, x.period(), day);
        s.row(what, x, turn);
    }

    private void p13() {
        s.of("13", "The first DAY above 0 on which all STREETS bear their own NAME; "
                + "the ROW: the first such one behind which the next midnight is by ORDER 0.");
        period("one order that changes nothing", Due.built("0-1,1;o"), 1, 1);
        period("two of them", Due.built("0-1,1;o;o"), 1, 2);
        period("seven of them", Due.built("0-1,1;o;o;o;o;o;o;o"), 1, 7);
        period("two by turns", Due.built("0-1,1;0-1,1;oab"), 2, 2);
        period("two by turns, a week of 7", Due.built("0-1,1;0-1,1;oab;o;o;o;o;o;o"), 8, 14);
        period("two by turns, at the end of the week", Due.built("0-1,1;0-1,1;o;o;o;o;o;o;oab"), 1, 14);
        period("as it was in the middle of the week", Due.built("0-1,1;0-1,1;oab;oab;oab"), 2, 6);
        period("12 in a cycle", twelve("oabcdefghijkl"), 12, 12);
        period("the longest", twelve("oabc.defg.hijkl;o;o;o;o;o;o"), 414, 420);
        period("both the longest", twelve("oad;o;o;o;o;o;oabcdefg.hijkl"), 420, 420);
        period("the longest, at the end of the week", twelve("o;o;o;o;o;o;oabc.defg.hijkl"), 1, 420);
        s.of("13", "Without STREETS or ORDERS both 1.");
        period("without both", new StreetsStepOn(), 1, 1);
        period("without streets", Due.built("o;o;o"), 1, 1);
        period("without orders", Due.built("0-1,1;0-1,1"), 1, 1);
    }

    private void p14() {
        s.of("14", "The first DAY (also behind the last one) above a DAY on which a STREET bears a NAME.");
        StreetsStepOn x = Due.built(Seen.TOWN);
        s.is("not day 0 itself", x.meets(0, 0, 0), 5);
        s.is("the day behind", x.meets(0, 0, 4), 5);
        s.is("above 5", x.meets(0, 0, 5), 6);
        s.is("above 6", x.meets(0, 0, 6), 11);
        s.is("the last day", x.meets(0, 2, LAST - 1), LAST);
        s.is("behind the last day", x.meets(0, 0, LAST), LAST + 1);
        s.is("farther behind it", x.meets(0, 2, LAST), LAST + 5);
        StreetsStepOn all = twelve("oabcdefghijkl");
        s.is("a whole turn", all.meets(0, 0, 0), 12);
        s.is("nearly a turn", all.meets(0, 11, 0), 11);
        s.is("the next day", all.meets(0, 1, 0), 1);
        s.is("without orders", Due.built("0-1,1").meets(0, 0, LAST), LAST + 1);
        StreetsStepOn slow = twelve("oabc.defg.hijkl;o;o;o;o;o;o");
        s.is("behind a turn of 420", slow.meets(0, 0, LAST), LAST + 14);
        s.of("14", "-2: never; NONE: none such.");
        s.is("never", Due.built("0-1,1;0-1,1;0-1,1;oab").meets(0, 2, LAST), -2);
        s.is("never, without orders", Due.built("0-1,1;0-1,1").meets(0, 1, 0), -2);
        s.refused("street -1", y -> y.meets(-1, 0, 0));
        s.refused("street 3", y -> y.meets(3, 0, 0));
        s.refused("name -1", y -> y.meets(0, -1, 0));
        s.refused("name 3", y -> y.meets(0, 3, 0));
        s.refused("day -1", y -> y.meets(0, 0, -1));
        s.refused("behind the last day", y -> y.meets(0, 0, LAST + 1));
        s.refused("the greatest day", y -> y.meets(0, 0, Long.MAX_VALUE));
        s.refused("the least day", y -> y.meets(0, 0, Long.MIN_VALUE));
    }

    private void p15() {
        s.of("15", "The first DAY (also behind the last one) above a DAY on which two unlike STREETS bear "
                + "each other's NAME (the one the other's own number, and the other way round).");
        StreetsStepOn x = Due.built(Seen.TOWN);
        s.is("the next day", x.trade(0, 1, 0), 1);
        s.is("not that day itself, a whole turn", x.trade(0, 1, 1), 7);
        s.is("the other way round", x.trade(1, 0, 0), 1);
        s.is("the last that is not behind the last day", x.trade(0, 1, LAST - 4), LAST - 3);
        s.is("behind the last day", x.trade(0, 1, LAST), LAST + 3);
        s.is("one way alone does not count", Due.built("0-1,1;0-1,1;0-1,1;oabc").trade(0, 1, 0), -2);
        s.of("15", "-2: never; NONE: others.");
        s.is("never", Due.built("0-1,1;0-1,1;0-1,1;oab").trade(0, 2, LAST), -2);
        s.is("never, without orders", Due.built("0-1,1;0-1,1").trade(0, 1, 0), -2);
        s.refused("like streets", y -> y.trade(0, 0, 0));
        s.refused("like streets that are not there", y -> y.trade(3, 3, 0));
        s.refused("the one -1", y -> y.trade(-1, 0, 0));
        s.refused("the one 3", y -> y.trade(3, 0, 0));
        s.refused("the other -1", y -> y.trade(0, -1, 0));
        s.refused("the other 3", y -> y.trade(0, 3, 0));
        s.refused("day -1", y -> y.trade(0, 1, -1));
        s.refused("behind the last day", y -> y.trade(0, 1, LAST + 1));
        s.refused("the greatest day", y -> y.trade(0, 1, Long.MAX_VALUE));
        s.refused("the least day", y -> y.trade(0, 1, Long.MIN_VALUE));
    }

    private void p16() {
        s.of("16", "NAMES (bits) that a STREET bears on some DAY. NONE: none such.");
        s.refused("-1", x -> x.bears(-1));
        s.refused("3", x -> x.bears(3));
        s.refused("the greatest", x -> x.bears(Integer.MAX_VALUE));
        s.leaves("0", 7, x -> x.bears(0));
        s.leaves("2", 7, x -> x.bears(2));
        s.is("all 12", twelve("oabcdefghijkl").bears(11), 4095);
        s.is("its own alone", Due.built("0-1,1;0-1,1").bears(1), 2);
        s.is("on the last of 14 days too", Due.built("0-1,1;0-1,1;o;o;o;o;o;o;oab").bears(0), 3);
        s.is("no streets", new StreetsStepOn().bears(0), -1);
    }

    private void p17() {
        s.of("17", "On how many DAYS of the first n (1 .. 1000000000000; DAY 0 is the first) a STREET bears a NAME.");
        StreetsStepOn x = Due.built(Seen.TOWN);
        s.is("the first day, its own", x.often(0, 0, 1), 1);
        s.is("the first day, another", x.often(0, 1, 1), 0);
        s.is("the first two", x.often(0, 1, 2), 1);
        s.is("a turn less one", x.often(0, 0, 5), 1);
        s.is("a turn", x.often(0, 0, 6), 2);
        s.is("a turn and one", x.often(0, 0, 7), 3);
        s.is("all", x.often(0, 0, LAST), 333333333333L);
        s.is("all", x.often(0, 1, LAST), 333333333334L);
        s.is("all", x.often(0, 2, LAST), 333333333333L);
        s.is("all but one", x.often(0, 2, LAST - 1), 333333333332L);
        s.is("without orders", Due.built("0-1,1;0-1,1").often(1, 1, LAST), LAST);
        s.is("never", Due.built("0-1,1;0-1,1").often(1, 0, LAST), 0);
        s.of("17", "NONE: others.");
        s.refused("n 0", y -> y.often(0, 0, 0));
        s.refused("n -1", y -> y.often(0, 0, -1));
        s.refused("n beyond", y -> y.often(0, 0, LAST + 1));
        s.refused("the greatest n", y -> y.often(0, 0, Long.MAX_VALUE));
        s.refused("the least n", y -> y.often(0, 0, Long.MIN_VALUE));
        s.refused("street -1", y -> y.often(-1, 0, 1));
        s.refused("street 3", y -> y.often(3, 0, 1));
        s.refused("name -1", y -> y.often(0, -1, 1));
        s.refused("name 3", y -> y.often(0, 3, 1));
    }

    private void p18() {
        s.of("18", "The DAY from 0 to one less than what is in the ROW of period() on which the most STREETS bear "
                + "their own NAME, but DAY 0");
        StreetsStepOn four = Due.built(FOUR);
        s.is("the last day of the turn", four.quiet(), 3);
        s.row("the last day of the turn", four, 2);
        StreetsStepOn two = Due.built("0-1,1;o;o");
        s.is("the only day", two.quiet(), 1);
        s.row("the only day", two, 1);
        StreetsStepOn none = Due.built("0-1,1;0-1,1;oab");
        s.is("none bears its own", none.quiet(), 1);
        s.row("none bears its own", none, 0);
        StreetsStepOn long420 = twelve("oabc.defg.hijkl;o;o;o;o;o;o");
        s.is("a turn of 420", long420.quiet(), 414);
        s.row("a turn of 420", long420, 12);
        s.of("18", "of equal ones the first; the ROW: how many.");
        StreetsStepOn x = Due.built(Seen.TOWN);
        s.is("days 1, 3, 5", x.quiet(), 1);
        s.row("days 1, 3, 5", x, 1);
        s.of("18", "-2: there is no other DAY.");
        StreetsStepOn one = Due.built("0-1,1;0-1,1;o");
        one.same(0, 0);
        s.is("a turn of 1", one.quiet(), -2);
        s.row("a turn of 1: the row as it was", one, 3);
        s.is("without orders", Due.built("0-1,1").quiet(), -2);
        s.is("without streets", Due.built("o;o").quiet(), -2);
        s.is("without both", new StreetsStepOn().quiet(), -2);
    }
}
