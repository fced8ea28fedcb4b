/** Boundaries that promises 48 to 52 name. Answers are reckoned by hand. */
final class KeptBoundaries {
    private static final long LAST = Sentences.LAST;
    private final Sentences s;

    private KeptBoundaries(Sentences sentences) {
        s = sentences;
    }

    static void all(Sentences sentences) {
        KeptBoundaries t = new KeptBoundaries(sentences);
        t.p48();
        t.p49();
        t.p49Streets();
        t.p50();
        t.p51();
        t.p52();
    }

    private void p48() {
        s.of("48", "are kept under a number 0 .. 1: true. Refused: others.");
        s.is("0", Seen.busy().keep(0), true);
        s.is("1", Seen.busy().keep(1), true);
        s.leaves("-1", 0, x -> x.keep(-1) ? 1 : 0);
        s.leaves("2", 0, x -> x.keep(2) ? 1 : 0);
        s.leaves("the least", 0, x -> x.keep(Integer.MIN_VALUE) ? 1 : 0);
        s.leaves("the greatest", 0, x -> x.keep(Integer.MAX_VALUE) ? 1 : 0);
        s.leaves("1 leaves 0", 1, x -> x.keep(1) ? 1 : 0);
        s.is("without streets", new StreetsStepOn().keep(0), true);
        StreetsStepOn x = Due.built("0-1,1");
        x.keep(0);
        x.pass(3);
        x.keep(1);
        x.pass(4);
        x.keep(0);
        x.pass(5);
        x.again(0);
        s.is("kept anew under 0", x.today(), 7);
        x.again(1);
        s.is("as it was under 1", x.today(), 3);
    }

    private void p49() {
        s.of("49", "They are as they were kept under a number. Refused: nothing kept,");
        s.leaves("1, nothing kept", 0, x -> x.again(1) ? 1 : 0);
        s.leaves("-1", 0, x -> x.again(-1) ? 1 : 0);
        s.leaves("2", 0, x -> x.again(2) ? 1 : 0);
        s.leaves("the least", 0, x -> x.again(Integer.MIN_VALUE) ? 1 : 0);
        s.leaves("the greatest", 0, x -> x.again(Integer.MAX_VALUE) ? 1 : 0);
        s.is("a new one, 0", new StreetsStepOn().again(0), false);
        s.is("a new one, 1", new StreetsStepOn().again(1), false);
        StreetsStepOn x = Due.built(Seen.TOWN);
        x.keep(1);
        s.is("1 is kept, not 0", x.again(0), false);
        s.is("1", x.again(1), true);
        s.is("1 again", x.again(1), true);
        StreetsStepOn full = Due.built(Seen.TOWN);
        full.keep(0);
        full.pass(LAST);
        full.sheet(3, 0, 0, 0);
        Due.town(full, "o;o;o;o;o");
        for (int i = 0; i < 12; i++) {
            full.letter(2, LAST);
        }
        full.keep(1);
        full.again(0);
        s.is("orders", full.count(1), 2);
        s.is("letters", full.count(2), 0);
        s.is("lengths", full.far(0, 3), 12);
        s.is("today", full.today(), 0);
        s.is("room for letters", full.letter(0, 0), 0);
        s.is("room for orders", Due.town(full, "oc"), 1);
        full.again(1);
        s.is("orders", full.count(1), 7);
        s.is("letters", full.count(2), 12);
        s.is("lengths", full.far(0, 3), 3);
        s.is("today", full.today(), LAST);
        s.is("no room for letters", full.letter(0, 0), -1);
        s.is("no room for orders", Due.town(full, "o"), -1);
        changedSince();
    }

    private void changedSince() {
        StreetsStepOn x = Due.built("0-1,1;0-1,1;0-1,1");
        x.keep(0);
        Due.town(x, "oab;o");
        x.letter(1, 2);
        x.keep(1);
        x.swap(0, 1);
        s.is("orders as kept", x.again(1), true);
        s.is("order 0", x.next(0, 0), 1);
        s.is("name on day 1", x.name(0, 1), 1);
        x.again(0);
        s.is("no orders", x.count(1), 0);
        s.is("names stay", x.name(0, 1), 0);
        x.period();
        s.row("no orders: period", x, 1);
        x.letter(2, 4);
        x.pass(9);
        x.again(1);
        s.is("the letter's home", x.home(0), 0);
        s.row("the letter's day", x, 1, -2);
        s.is("its name", Due.rule(x, "n"), 0);
        s.is("its name", x.late(0, 0, 0), 1);
    }

    private void p49Streets() {
        s.of("49", "a STREET was told since.");
        StreetsStepOn x = Due.built(Seen.TOWN);
        x.keep(0);
        Due.town(x, "o;oab");
        s.is("orders alone", x.again(0), true);
        Due.town(x, "8-9,1;");
        s.is("a street that did not come", x.again(0), true);
        x.town();
        s.is("an empty text", x.again(0), true);
        Due.town(x, "8-9,1");
        x.pass(3);
        s.is("a street", x.again(0), false);
        s.is("nothing changed", x.today(), 3);
        s.is("keep again", x.keep(0), true);
        x.pass(3);
        s.is("none since", x.again(0), true);
        s.is("today", x.today(), 3);
        StreetsStepOn both = Due.built("0-1,1");
        both.keep(0);
        Due.town(both, "0-1,1");
        both.keep(1);
        s.is("since 0", both.again(0), false);
        s.is("not since 1", both.again(1), true);
        s.is("still since 0", both.again(0), false);
        StreetsStepOn empty = new StreetsStepOn();
        empty.keep(0);
        empty.pass(1);
        s.is("without streets", empty.again(0), true);
        s.is("day 0", empty.today(), 0);
        Due.town(empty, "0-1,1");
        s.is("the first street", empty.again(0), false);
    }

    private void p50() {
        s.of("50", "NONE for another what.");
        s.refused("-1", x -> x.count(-1));
        s.refused("6", x -> x.count(6));
        s.refused("the least", x -> x.count(Integer.MIN_VALUE));
        s.refused("the greatest", x -> x.count(Integer.MAX_VALUE));
        s.leaves("0", 3, x -> x.count(0));
        s.leaves("5", 4, x -> x.count(5));
        s.of("50", "What 0: STREETS, 1: ORDERS, 2: LETTERS, 3: WISHES, 4: numbers of the ROW, 5: signs of THE TEXT.");
        StreetsStepOn x = NamesBoundaries.twelve("o;o;o;o;o;o;o");
        for (int i = 0; i < 12; i++) {
            x.letter(0, 0);
            x.wish(1, 0, 1);
        }
        x.cycles(0);
        for (int i = 0; i < 20; i++) {
            x.sign(0);
        }
        int[] most = {12, 7, 12, 6, 12, 80};
        for (int what = 0; what <= 5; what++) {
            s.is("the most of " + what, x.count(what), most[what]);
        }
    }

    private void p51() {
        s.of("51", "TODAY.");
        StreetsStepOn x = new StreetsStepOn();
        s.is("at first", x.today(), 0);
        x.pass(LAST - 1);
        s.is("the last but one", x.today(), LAST - 1);
        x.pass(1);
        s.is("the last", x.today(), LAST);
        x.pass(1);
        s.is("no farther", x.today(), LAST);
    }

    private void p52() {
        s.of("52", "Number i of the ROW. NoSuchElementException: none such.");
        s.leavesAndThrows("-1", x -> x.row(-1));
        s.leavesAndThrows("1 of 1", x -> x.row(1));
        s.leavesAndThrows("the least", x -> x.row(Integer.MIN_VALUE));
        s.leavesAndThrows("the greatest", x -> x.row(Integer.MAX_VALUE));
        s.leaves("0 of 1", 1, x -> x.row(0));
        s.throwsNone("nothing told yet", () -> new StreetsStepOn().row(0));
        StreetsStepOn x = NamesBoundaries.twelve("o");
        x.cycles(0);
        s.is("0 of 12", x.row(0), 12);
        s.is("11 of 12", x.row(11), 0);
        s.throwsNone("12 of 12", () -> x.row(12));
        x.same(0, 0);
        s.is("0 of 1", x.row(0), 4095);
        s.throwsNone("what was longer ahead is gone", () -> x.row(1));
        x.mends(0);
        s.throwsNone("an empty one", () -> x.row(0));
    }
}
