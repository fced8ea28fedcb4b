/** Boundaries that promises 41 to 47 name. Answers are reckoned by hand. */
final class CouncilBoundaries {
    private final Sentences s;

    private CouncilBoundaries(Sentences sentences) {
        s = sentences;
    }

    static void all(Sentences sentences) {
        CouncilBoundaries t = new CouncilBoundaries(sentences);
        t.p41();
        t.p41Refused();
        t.p42();
        t.p43();
        t.p43Refused();
        t.p44();
        t.p45();
        t.p46();
        t.p47();
    }

    private void wish(int sort, int street, int number) {
        s.is("sort " + sort + ", " + street + ", " + number, Seen.busy().wish(sort, street, number), 2);
    }

    private void p41() {
        s.of("41", "A WISH more: its number.");
        wish(0, 0, 1);
        wish(0, 0, 2);
        wish(0, 2, 0);
        wish(1, 0, 1);
        wish(1, 2, 12);
        wish(2, 0, 1);
        wish(2, 2, 12);
        wish(3, 0, 0);
        wish(3, 0, 2);
        wish(3, 2, 0);
        wish(3, 2, 2);
    }

    private void noWish(int sort, int street, int number) {
        s.refused("sort " + sort + ", " + street + ", " + number, x -> x.wish(sort, street, number));
    }

    private void p41Refused() {
        s.of("41", "Refused: others, like STREETS for 0, 6.");
        noWish(-1, 0, 1);
        noWish(4, 0, 1);
        noWish(Integer.MAX_VALUE, 0, 1);
        for (int sort = 0; sort <= 3; sort++) {
            noWish(sort, -1, 1);
            noWish(sort, 3, 1);
            noWish(sort, Integer.MIN_VALUE, 1);
            noWish(sort, 0, -1);
            noWish(sort, 0, Integer.MAX_VALUE);
        }
        noWish(0, 0, 3);
        noWish(0, 0, 0);
        noWish(0, 2, 2);
        noWish(1, 0, 0);
        noWish(1, 0, 13);
        noWish(2, 0, 0);
        noWish(2, 0, 13);
        noWish(3, 0, 3);
        StreetsStepOn x = Seen.busy();
        for (int i = 2; i < 6; i++) {
            s.is("up to 6", x.wish(3, 0, 0), i);
        }
        s.is("the 7th", x.wish(3, 0, 0), -1);
        s.is("there are", x.count(3), 6);
        s.is("no streets", new StreetsStepOn().wish(1, 0, 1), -1);
    }

    private void p42() {
        s.of("42", "WISHES (bits) that are kept by ORDERS as they are.");
        s.is("no wishes", Due.built(Seen.TOWN).kept(), 0);
        StreetsStepOn x = Due.built(Seen.TOWN);
        for (int i = 0; i < 6; i++) {
            x.wish(1, 0, 12);
        }
        s.is("all 6", x.kept(), 63);
        StreetsStepOn y = Due.built(Seen.TOWN);
        y.wish(1, 1, 3);
        y.wish(1, 1, 2);
        y.wish(2, 1, 3);
        y.wish(2, 1, 4);
        y.wish(3, 2, 0);
        y.wish(0, 2, 0);
        s.is("b bears b on day 3; c bears a", y.kept(), 1 + 8 + 16);
        y.swap(0, 1);
        s.is("as they are now: b bears c, a, b", y.kept(), 1 + 8 + 16);
        Due.town(y, "oca");
        s.is("by a third c goes to a, and b bears c, a, a, c", y.kept(), 4 + 8);
    }

    private void p43() {
        s.of("43", "Of all ways in which one ORDER alone, the same each midnight, could be "
                + "(at most 6 STREETS; else -3) the first");
        StreetsStepOn six = Due.built(TermsBoundaries.streets(6));
        s.is("6 streets", six.choose(0), 720);
        s.row("6 streets", six, 0, 1, 2, 3, 4, 5);
        six.wish(1, 5, 5);
        six.wish(2, 5, 1);
        six.wish(2, 5, 2);
        six.wish(2, 5, 3);
        six.wish(2, 5, 4);
        s.is("f in a cycle of 5", six.choose(31), 120);
        s.row("f in a cycle of 5", six, 0, 2, 3, 4, 5, 1);
        s.is("f in a cycle of 5 or 6", six.choose(30), 240);
        Due.town(six, "0-1,1");
        s.is("7 streets", six.choose(0), -3);
        s.row("7 streets: the row as it was", six, 0, 2, 3, 4, 5, 1);
        s.is("12 streets", NamesBoundaries.twelve("o").choose(0), -3);
        StreetsStepOn one = Due.built("0-1,1");
        s.is("1 street", one.choose(0), 1);
        s.row("1 street", one, 0);
        StreetsStepOn empty = new StreetsStepOn();
        s.is("no streets", empty.choose(0), 1);
        s.row("no streets", empty);
        keepsAll();
        s.of("43", "WISHES told as bits (0 .. ; those there are)");
        StreetsStepOn x = Due.built("0-1,1;0-1,1");
        s.is("no wishes", x.choose(0), 2);
        for (int i = 0; i < 6; i++) {
            x.wish(3, 0, 0);
        }
        s.is("none of them", x.choose(0), 2);
        s.is("the last", x.choose(32), 1);
        s.is("all", x.choose(63), 1);
        s.row("all", x, 1, 0);
    }

    private void choose(String what, int sort, int street, int number, int ways, long... next) {
        StreetsStepOn x = Due.built(TermsBoundaries.streets(4));
        x.wish(sort, street, number);
        s.is(what, x.choose(1), ways);
        s.row(what, x, next);
    }

    private void keepsAll() {
        s.of("43", "(the row of NEXT of each STREET being the least) that keeps WISHES");
        choose("d is not in a's cycle", 0, 0, 3, 12, 0, 1, 2, 3);
        choose("a's cycle is of 1", 1, 0, 1, 6, 0, 1, 2, 3);
        choose("a's cycle is of 3 at most", 1, 0, 3, 18, 0, 1, 2, 3);
        choose("a's cycle is of 4 at most", 1, 0, 4, 24, 0, 1, 2, 3);
        choose("a's cycle is not of 1", 2, 0, 1, 18, 1, 0, 2, 3);
        choose("a's cycle is of 3 or 4", 2, 0, 2, 12, 1, 2, 0, 3);
        choose("a's cycle is of 2 or 4", 2, 0, 3, 12, 1, 0, 2, 3);
        choose("a's cycle is of 1, 2, 3 or 4", 2, 0, 12, 0);
        choose("a stays not", 3, 0, 0, 18, 1, 0, 2, 3);
        choose("a goes not to d", 3, 0, 3, 18, 0, 1, 2, 3);
        StreetsStepOn x = Due.built(TermsBoundaries.streets(4));
        x.wish(3, 0, 0);
        x.wish(0, 0, 1);
        x.wish(0, 0, 2);
        s.is("a with d alone", x.choose(7), 2);
        s.row("a with d alone", x, 3, 1, 2, 0);
    }

    private void p43Refused() {
        s.of("43", "0: in none (the ROW is empty);");
        StreetsStepOn x = Due.built("0-1,1;0-1,1");
        x.wish(3, 0, 0);
        x.wish(3, 0, 1);
        x.same(0, 0);
        s.is("none", x.choose(3), 0);
        s.row("none", x);
        s.is("one", x.choose(2), 1);
        s.row("one", x, 0, 1);
        s.of("43", "NONE: others.");
        s.is("all there are", Seen.busy().choose(3), 4);
        s.refused("-1", y -> y.choose(-1));
        s.refused("4", y -> y.choose(4));
        s.refused("one that is there, one that is not", y -> y.choose(5));
        s.refused("the highest bit", y -> y.choose(Integer.MIN_VALUE));
        s.is("without wishes", Due.built("0-1,1").choose(1), -1);
        StreetsStepOn full = Due.built("0-1,1");
        for (int i = 0; i < 6; i++) {
            full.wish(1, 0, 1);
        }
        s.is("63 of 6", full.choose(63), 1);
        s.is("64 of 6", full.choose(64), -1);
        s.is("7 streets and others", NamesBoundaries.twelve("o").choose(1), -1);
    }

    private void p44() {
        s.of("44", "If no such ORDER keeps all WISHES the fewest of them that none keeps together: how many; "
                + "the ROW: they (bits): of as few the least.");
        StreetsStepOn x = Due.built("0-1,1;0-1,1");
        x.wish(1, 0, 12);
        x.wish(3, 0, 0);
        x.wish(3, 0, 1);
        x.wish(3, 1, 0);
        x.wish(3, 1, 1);
        s.is("two", x.proof(), 2);
        s.row("two", x, 2 + 4);
        x.wish(2, 0, 2);
        s.is("one is fewer, though the last", x.proof(), 1);
        s.row("one is fewer, though the last", x, 32);
        StreetsStepOn first = Due.built("0-1,1;0-1,1");
        first.wish(2, 0, 2);
        first.wish(2, 1, 2);
        s.is("the first alone", first.proof(), 1);
        s.row("the first alone", first, 1);
        StreetsStepOn all = Due.built("0-1,1;0-1,1;0-1,1;0-1,1;0-1,1;0-1,1");
        for (int i = 0; i < 6; i++) {
            all.wish(3, 0, i);
        }
        s.is("all six", all.proof(), 6);
        s.row("all six", all, 63);
        s.of("44", "0: some keeps all; -3.");
        StreetsStepOn some = Due.built("0-1,1;0-1,1");
        some.same(0, 0);
        s.is("no wishes", some.proof(), 0);
        some.wish(3, 0, 0);
        s.is("some", some.proof(), 0);
        s.row("some: the row as it was", some, 3);
        s.is("no streets", new StreetsStepOn().proof(), 0);
        Due.town(all, "0-1,1");
        s.is("7 streets", all.proof(), -3);
        s.row("7 streets: the row as it was", all, 63);
        s.is("7 streets, no wishes", Due.built(TermsBoundaries.streets(7)).proof(), -3);
        s.is("6 streets, no wishes", Due.built(TermsBoundaries.streets(6)).proof(), 0);
    }

    private void p45() {
        s.of("45", "(ORDERS told are gone, TODAY is DAY 0): in how many they are kept.");
        StreetsStepOn x = Seen.busy();
        s.is("a to another one, c's own by day 6", x.decree(3), 4);
        s.is("orders", x.count(1), 1);
        s.is("today", x.today(), 0);
        s.is("a to b", x.next(0, 0), 1);
        s.is("letters stay", x.count(2), 2);
        s.is("lengths stay", x.street(0, 2), 6);
        s.row("the row as it was", x, 1);
        s.is("what is kept", x.again(0), true);
        s.is("the orders again", x.count(1), 2);
        StreetsStepOn none = Due.built("0-1,1;0-1,1");
        none.pass(5);
        s.is("without wishes", none.decree(0), 2);
        s.is("an order now", none.count(1), 1);
        s.is("today", none.today(), 0);
        StreetsStepOn six = Due.built(TermsBoundaries.streets(6) + ";o;o");
        s.is("6 streets", six.decree(0), 720);
        s.is("one order", six.count(1), 1);
        StreetsStepOn one = Due.built("0-1,1;0-1,1");
        one.wish(3, 0, 0);
        s.is("in one way alone", one.decree(1), 1);
        s.is("names by it", one.name(0, 1), 1);
        s.is("period by it", one.period(), 2);
        Due.town(one, "0-1,1");
        s.is("a street told later stays by it", one.next(0, 2), 2);
        s.is("a street told later stays by it", one.name(2, 1), 2);
        s.of("45", "0: nothing changes; NONE, -3 likewise.");
        s.leaves("NONE: -1", -1, y -> y.decree(-1));
        s.leaves("NONE: 4", -1, y -> y.decree(4));
        StreetsStepOn zero = Seen.busy();
        zero.wish(3, 0, 1);
        zero.wish(3, 0, 2);
        String before = Seen.all(zero);
        s.is("0", zero.decree(13), 0);
        s.is("0: nothing changes", Seen.all(zero).equals(before), true);
        s.is("one of them less", zero.decree(9), 2);
        StreetsStepOn seven = Seen.busy();
        seven.end(0);
        Due.town(seven, "4-5,1;4-5,1;4-5,1;4-5,1");
        before = Seen.all(seven);
        s.is("-3", seven.decree(3), -3);
        s.is("-3: nothing changes", Seen.all(seven).equals(before), true);
        s.is("7 streets and none such", seven.decree(4), -1);
    }

    private void p46() {
        s.of("46", "Two ORDERS change their places in the week: true. Refused: none such.");
        StreetsStepOn x = Due.built("0-1,1;0-1,1;oab;o;o;o;o;o;o");
        s.is("the first and the last", x.swap(0, 6), true);
        s.is("the first", x.next(0, 0), 0);
        s.is("the last", x.next(6, 0), 1);
        s.is("day 6", x.name(0, 6), 0);
        s.is("day 7", x.name(0, 7), 1);
        s.is("one with itself", x.swap(6, 6), true);
        s.is("it is as it was", x.next(6, 0), 1);
        s.leaves("-1 and 0", 0, y -> y.swap(-1, 0) ? 1 : 0);
        s.leaves("0 and -1", 0, y -> y.swap(0, -1) ? 1 : 0);
        s.leaves("2 and 0", 0, y -> y.swap(2, 0) ? 1 : 0);
        s.leaves("0 and 2", 0, y -> y.swap(0, 2) ? 1 : 0);
        s.leaves("2 and 2", 0, y -> y.swap(2, 2) ? 1 : 0);
        s.leaves("the greatest", 0, y -> y.swap(Integer.MAX_VALUE, 0) ? 1 : 0);
        s.leaves("1 and 1", 1, y -> y.swap(1, 1) ? 1 : 0);
        s.is("no orders", new StreetsStepOn().swap(0, 0), false);
    }

    private void p47() {
        s.of("47", "of equal ones the first pair (a below b): that DAY; the ROW: both, that as it is.");
        StreetsStepOn x = Due.built("0-1,1;0-1,1;oab;oab;oab;oab;oab;oab;o");
        s.is("the first with the last", x.soonest(), 1);
        s.row("the first with the last", x, 0, 6, 2);
        StreetsStepOn equal = Due.built("0-1,1;0-1,1;oab;oab;oab");
        s.is("all are equal", equal.soonest(), 2);
        s.row("all are equal", equal, 0, 1, 2);
        StreetsStepOn worse = Due.built("0-1,1;0-1,1;o;oab");
        s.is("worse than it is", worse.soonest(), 3);
        s.row("worse than it is", worse, 0, 1, 1);
        StreetsStepOn inner = Due.built("0-1,1;0-1,1;0-1,1;oabc;oab;oacb");
        s.is("the last two", inner.soonest(), 2);
        s.row("the last two", inner, 1, 2, 6);
        StreetsStepOn longest = NamesBoundaries.twelve("o;oabc.defg.hijkl;o;o;o;o;o");
        s.is("the first is left", longest.soonest(), 1);
        s.row("the first is left", longest, 0, 2, 1);
        StreetsStepOn empty = Due.built("o;o");
        s.is("without streets", empty.soonest(), 1);
        s.row("without streets", empty, 0, 1, 1);
        s.of("47", "NONE: fewer than two ORDERS. Nothing changes.");
        s.is("no orders", new StreetsStepOn().soonest(), -1);
        StreetsStepOn one = Due.built("0-1,1;0-1,1;oab");
        one.same(0, 0);
        s.is("one order", one.soonest(), -1);
        s.row("one order: the row as it was", one, 3);
        s.is("two orders", Seen.busy().soonest(), 6);
        s.is("orders are as they were", x.next(0, 0) + 10 * x.next(6, 0), 1);
        s.is("names are as they were", x.name(0, 1), 1);
        s.is("period is as it was", x.period(), 2);
    }
}
