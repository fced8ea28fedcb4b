/** Boundaries that promises 19 to 29 name. Answers are reckoned by hand. */
final class LettersBoundaries {
    private static final long LAST = Sentences.LAST;
    private final Sentences s;

    private LettersBoundaries(Sentences sentences) {
        s = sentences;
    }

    static void all(Sentences sentences) {
        LettersBoundaries t = new LettersBoundaries(sentences);
        t.p19();
        t.p20();
        t.p21();
        t.p22();
        t.p23();
        t.p24();
        t.p25();
        t.p26();
        t.p27();
        t.p28();
        t.p29();
    }

    private void p19() {
        s.of("19", "A LETTER more: its number. Refused: others, 12.");
        s.refused("name -1", x -> x.letter(-1, 0));
        s.refused("name 3", x -> x.letter(3, 0));
        s.refused("the greatest name", x -> x.letter(Integer.MAX_VALUE, 0));
        s.refused("day -1", x -> x.letter(0, -1));
        s.refused("behind the last day", x -> x.letter(0, LAST + 1));
        s.refused("the least day", x -> x.letter(0, Long.MIN_VALUE));
        s.refused("the greatest day", x -> x.letter(0, Long.MAX_VALUE));
        s.is("no streets", new StreetsStepOn().letter(0, 0), -1);
        StreetsStepOn x = Due.built(Seen.TOWN);
        s.is("name 0 of day 0", x.letter(0, 0), 0);
        s.is("name 2 of the last day", x.letter(2, LAST), 1);
        for (int i = 2; i < 12; i++) {
            s.is("up to 12", x.letter(i % 3, i), i);
        }
        s.is("the 13th", x.letter(0, 0), -1);
        s.is("there are", x.count(2), 12);
        s.is("the 12th is as it was", x.home(11), 1);
    }

    private void p20() {
        s.of("20", "how many DAYS ago it was written (below 0: later).");
        StreetsStepOn x = Due.built(Seen.TOWN);
        x.letter(0, 0);
        x.letter(0, 1);
        x.letter(2, LAST);
        s.is("of today", x.home(0), 0);
        s.row("of today", x, 0, 0);
        s.is("a day later", x.home(1), 1);
        s.row("a day later", x, 0, -1);
        s.is("of the last day", x.home(2), 0);
        s.row("of the last day", x, 2, -LAST);
        x.pass(LAST);
        s.is("on the last day, of day 0", x.home(0), 0);
        s.row("on the last day, of day 0", x, 1, LAST);
        s.is("on the last day, of today", x.home(2), 0);
        s.row("on the last day, of today", x, 0, 0);
        s.of("20", "NONE: none such.");
        s.refused("-1", y -> y.home(-1));
        s.refused("2", y -> y.home(2));
        s.refused("the greatest", y -> y.home(Integer.MAX_VALUE));
        s.is("0", Seen.busy().home(0), 1);
        s.is("1", Seen.busy().home(1), 2);
        s.is("no letters", Due.built("0-1,1").home(0), -1);
    }

    private void p21() {
        s.of("21", "that was written on some DAY from .. to (1 .. 1000 DAYS)");
        StreetsStepOn x = Due.built(Seen.TOWN);
        s.is("1 day", x.means(0, 2, 2), 4);
        s.row("1 day", x, 1, 2, 1);
        s.is("the last day", x.means(0, LAST, LAST), 2);
        s.row("the last day", x, 1, 1, 1);
        s.is("1000 days", x.means(0, 0, 999), 7);
        s.row("1000 days", x, 3, 2, 334);
        s.is("the last 1000 days", x.means(0, LAST - 999, LAST), 7);
        s.row("the last 1000 days", x, 3, 1, 334);
        s.of("21", "the STREET for most of these DAYS (the first of equal ones), for how many.");
        s.is("two equal ones", x.means(0, 4, 5), 3);
        s.row("two equal ones", x, 2, 0, 1);
        s.is("the later is for more", x.means(0, 1, 3), 6);
        s.row("the later is for more", x, 2, 2, 2);
        StreetsStepOn all = NamesBoundaries.twelve("oabcdefghijkl");
        s.is("12 equal ones", all.means(11, 0, 11), 4095);
        s.row("12 equal ones", all, 12, 0, 1);
        s.is("13 days", all.means(11, 0, 12), 4095);
        s.row("13 days", all, 12, 11, 2);
        s.of("21", "NONE: others.");
        s.refused("no day", y -> y.means(0, 1, 0));
        s.refused("1001 days", y -> y.means(0, 0, 1000));
        s.refused("the last 1001 days", y -> y.means(0, LAST - 1000, LAST));
        s.refused("from -1", y -> y.means(0, -1, 0));
        s.refused("behind the last day", y -> y.means(0, LAST, LAST + 1));
        s.refused("both behind", y -> y.means(0, LAST + 1, LAST + 1));
        s.refused("all there is", y -> y.means(0, Long.MIN_VALUE, Long.MAX_VALUE));
        s.refused("and turned round", y -> y.means(0, Long.MAX_VALUE, Long.MIN_VALUE));
        s.refused("name -1", y -> y.means(-1, 0, 0));
        s.refused("name 3", y -> y.means(3, 0, 0));
    }

    private void p22() {
        s.of("22", "(DAYS from 0 to one less than what is in the ROW of period()).");
        StreetsStepOn x = Due.built(NamesBoundaries.FOUR);
        s.is("days 0 and 2, not 4", x.smudge(0, 0), 9);
        s.row("days 0 and 2, not 4", x, 2, 0, 1);
        s.is("days 1 and 3", x.smudge(0, 1), 12);
        s.row("days 1 and 3", x, 2, 2, 1);
        StreetsStepOn one = Due.built("0-1,1;o;o;o;o;o;o;o");
        s.is("day 6 alone", one.smudge(0, 6), 1);
        s.row("day 6 alone", one, 1, 0, 1);
        StreetsStepOn slow = NamesBoundaries.twelve("oabc.defg.hijkl;o;o;o;o;o;o");
        s.is("60 days of 420", slow.smudge(3, 6), 8 + 16 + 32 + 64);
        s.row("60 days of 420", slow, 4, 3, 15);
        s.of("22", "NONE: none such.");
        s.refused("name -1", y -> y.smudge(-1, 0));
        s.refused("name 3", y -> y.smudge(3, 0));
        s.refused("order -1", y -> y.smudge(0, -1));
        s.refused("order 2", y -> y.smudge(0, 2));
        s.is("order 1", Seen.busy().smudge(2, 1), 7);
        s.is("no orders", Due.built("0-1,1").smudge(0, 0), -1);
        s.is("no streets", Due.built("o").smudge(0, 0), -1);
    }

    private void p23() {
        s.of("23", "the ORDERS by shift (0 .. 6) later ones of the week: ORDER (d less 1, and shift) % ORDERS.");
        StreetsStepOn x = Due.built(Seen.TOWN);
        x.letter(0, 2);
        s.is("0", x.misread(0, 0), 2);
        s.is("1", x.misread(0, 1), 1);
        s.is("5 is as 1", x.misread(0, 5), 1);
        s.is("6 is as 0", x.misread(0, 6), 2);
        StreetsStepOn week = Due.built("0-1,1;0-1,1;o;o;o;o;o;o;oab");
        week.letter(0, 1);
        week.letter(0, 2);
        week.letter(0, 0);
        s.is("day 1 by order 6", week.misread(0, 6), 1);
        s.is("day 1 by order 5", week.misread(0, 5), 0);
        s.is("day 2 by orders 6, then 0", week.misread(1, 6), 1);
        s.is("day 2 by orders 5, then 6", week.misread(1, 5), 1);
        s.is("day 2 by orders 4, then 5", week.misread(1, 4), 0);
        s.is("day 0", week.misread(2, 6), 0);
        StreetsStepOn one = Due.built("0-1,1;0-1,1;oab");
        one.letter(0, 1);
        one.letter(1, 1);
        s.is("one order, any shift", one.misread(0, 6), 1);
        s.is("one order, to a", one.misread(1, 5), 0);
        StreetsStepOn still = Due.built("0-1,1;0-1,1");
        still.letter(1, LAST);
        s.is("without orders", still.misread(0, 6), 1);
        s.of("23", "NONE: none such.");
        s.refused("shift -1", y -> y.misread(0, -1));
        s.refused("shift 7", y -> y.misread(0, 7));
        s.refused("the greatest shift", y -> y.misread(0, Integer.MAX_VALUE));
        s.refused("letter -1", y -> y.misread(-1, 0));
        s.refused("letter 2", y -> y.misread(2, 0));
        s.is("shift 7 without orders", still.misread(0, 7), -1);
    }

    private void p24() {
        s.of("24", "How many SHIFTS 0 .. ORDERS less 1 would bring a LETTER to its HOME; the ROW: they (bits).");
        StreetsStepOn week = Due.built("0-1,1;0-1,1;o;o;o;o;o;o;oab");
        week.letter(0, 1);
        week.letter(0, 7);
        week.letter(0, 6);
        s.is("all but 6", week.shifts(0), 6);
        s.row("all but 6", week, 63);
        s.is("all 7", week.shifts(1), 7);
        s.row("all 7", week, 127);
        s.is("0 alone", week.shifts(2), 1);
        s.row("0 alone", week, 1);
        StreetsStepOn one = Due.built("0-1,1;0-1,1;oab");
        one.letter(0, LAST);
        s.is("one order", one.shifts(0), 1);
        s.row("one order", one, 1);
        s.of("24", "0 without ORDERS; NONE: none such.");
        StreetsStepOn still = Due.built("0-1,1");
        still.letter(0, 5);
        still.same(0, 0);
        s.is("without orders", still.shifts(0), 0);
        s.row("without orders", still, 0);
        s.refused("-1", y -> y.shifts(-1));
        s.refused("2", y -> y.shifts(2));
        s.is("1", Seen.busy().shifts(1), 1);
        s.is("none such without orders", still.shifts(1), -1);
    }

    private void p25() {
        s.of("25", "A LETTER with a NAME was written on some DAY from .. to (1 .. 60 DAYS)");
        StreetsStepOn x = Due.built(Seen.TOWN);
        s.is("1 day", x.asks(0, 0, 0), 0);
        s.is("60 days", x.asks(0, 0, 59), 2);
        s.row("60 days", x, 0, 3);
        s.is("the last day", x.asks(0, LAST, LAST), 0);
        s.is("the last 60 days", x.asks(0, LAST - 59, LAST), 2);
        s.row("the last 60 days", x, 0, 3);
        StreetsStepOn late = Due.built("0-1,1;0-1,1;o;o;o;o;o;o;oab");
        s.is("the last day is still of the same home", late.asks(0, 57, 62), 0);
        s.is("the last day is of another home", late.asks(0, 57, 63), 1);
        s.is("the first day is of another home", late.asks(0, 55, 62), 1);
        s.of("25", "the first STREET to ask (of equal ones the first; NONE for 0), how many STREETS may be HOME.");
        s.is("none to ask", x.asks(0, 2, 3), 0);
        s.row("none to ask", x, -1, 1);
        s.is("a or b", x.asks(0, 0, 1), 1);
        s.row("a or b", x, 0, 2);
        s.is("another name on the same days", x.asks(1, 2, 3), 1);
        s.row("another name on the same days", x, 0, 2);
        s.is("b or c: a tells nothing", x.asks(0, 1, 2), 1);
        s.row("b or c: a tells nothing", x, 1, 2);
        s.of("25", "-3: more than 6 STREETS; NONE: others.");
        StreetsStepOn six = Due.built(TermsBoundaries.streets(6) + ";oabcdef");
        s.is("6 streets", six.asks(5, 0, 59), 1);
        s.row("6 streets", six, 0, 6);
        Due.town(six, "0-1,1");
        s.is("7 streets", six.asks(5, 0, 59), -3);
        s.row("7 streets: the row as it was", six, 0, 6);
        s.is("7 streets and none such", six.asks(7, 0, 59), -1);
        s.is("12 streets", NamesBoundaries.twelve("o").asks(0, 0, 0), -3);
        s.refused("61 days", y -> y.asks(0, 0, 60));
        s.refused("the last 61 days", y -> y.asks(0, LAST - 60, LAST));
        s.refused("no day", y -> y.asks(0, 1, 0));
        s.refused("from -1", y -> y.asks(0, -1, 0));
        s.refused("behind the last day", y -> y.asks(0, LAST, LAST + 1));
        s.refused("all there is", y -> y.asks(0, Long.MIN_VALUE, Long.MAX_VALUE));
        s.refused("name -1", y -> y.asks(-1, 0, 0));
        s.refused("name 3", y -> y.asks(3, 0, 0));
        s.is("no streets", new StreetsStepOn().asks(0, 0, 0), -1);
    }

    private void p26() {
        s.of("26", "NONE: none such.");
        s.leaves("letter 0, street 0", 0, x -> x.answer(0, 0));
        s.leaves("letter 1, street 2", 0, x -> x.answer(1, 2));
        s.refused("letter -1", x -> x.answer(-1, 0));
        s.refused("letter 2", x -> x.answer(2, 0));
        s.refused("street -1", x -> x.answer(0, -1));
        s.refused("street 3", x -> x.answer(0, 3));
        s.refused("the greatest", x -> x.answer(Integer.MAX_VALUE, Integer.MAX_VALUE));
    }

    private void p27() {
        s.of("27", "How many STREETS an ORDER does not leave as they are; "
                + "the ROW: how many CYCLES of 1, 2, .. up to STREETS it has.");
        StreetsStepOn one = Due.built("0-1,1;oa");
        s.is("1 street", one.cycles(0), 0);
        s.row("1 street", one, 1);
        StreetsStepOn all = NamesBoundaries.twelve("oabcdefghijkl;o;oab.cd.ef.gh.ij.kl");
        s.is("a cycle of 12", all.cycles(0), 12);
        s.row("a cycle of 12", all, 0, 0, 0, 0, 0, 0, 0, 0, 0, 0, 0, 1);
        s.is("12 cycles of 1", all.cycles(1), 0);
        s.row("12 cycles of 1", all, 12, 0, 0, 0, 0, 0, 0, 0, 0, 0, 0, 0);
        s.is("6 cycles of 2", all.cycles(2), 12);
        s.row("6 cycles of 2", all, 0, 6, 0, 0, 0, 0, 0, 0, 0, 0, 0, 0);
        StreetsStepOn empty = Due.built("o");
        empty.same(0, 0);
        s.is("no streets", empty.cycles(0), 0);
        s.row("no streets", empty);
        s.of("27", "NONE: none such.");
        s.refused("-1", x -> x.cycles(-1));
        s.refused("2", x -> x.cycles(2));
        s.refused("the greatest", x -> x.cycles(Integer.MAX_VALUE));
        s.is("1", Seen.busy().cycles(1), 2);
    }

    private void p28() {
        s.of("28", "done n times (1 .. 12) one behind the other");
        StreetsStepOn six = Due.built(TermsBoundaries.streets(6) + ";o;oabcde");
        s.is("once", six.roots(1, 1), 1);
        s.row("once", six, 1, 2, 3, 4, 0, 5);
        s.is("12 times: all but those with a cycle of 5", six.roots(0, 12), 576);
        s.row("12 times", six, 0, 1, 2, 3, 4, 5);
        s.is("11 times: itself", six.roots(1, 11), 1);
        s.row("11 times: itself", six, 1, 2, 3, 4, 0, 5);
        s.is("12 times: abcde is what its third is twelve times", six.roots(1, 12), 1);
        s.row("12 times: adbec", six, 3, 4, 0, 1, 2, 5);
        s.of("28", "(at most 6 STREETS; else -3)");
        Due.town(six, "0-1,1");
        s.is("7 streets", six.roots(0, 1), -3);
        s.row("7 streets: the row as it was", six, 3, 4, 0, 1, 2, 5);
        s.is("7 streets, n 0", six.roots(0, 0), -1);
        s.is("12 streets", NamesBoundaries.twelve("o").roots(0, 1), -3);
        s.of("28", "the ROW: the first of them (the least row of NEXT; none without).");
        StreetsStepOn x = Due.built("0-1,1;0-1,1;0-1,1;0-1,1;oab.cd;oab");
        s.is("two", x.roots(0, 2), 2);
        s.row("two", x, 2, 3, 1, 0);
        s.is("none", x.roots(1, 2), 0);
        s.row("none", x);
        StreetsStepOn empty = Due.built("o");
        s.is("no streets", empty.roots(0, 1), 1);
        s.row("no streets", empty);
        s.of("28", "NONE: others.");
        s.refused("n 0", y -> y.roots(0, 0));
        s.refused("n 13", y -> y.roots(0, 13));
        s.refused("the least n", y -> y.roots(0, Integer.MIN_VALUE));
        s.refused("order -1", y -> y.roots(-1, 1));
        s.refused("order 2", y -> y.roots(2, 1));
    }

    private void p29() {
        s.of("29", "the first STREET that does not, the one that bears its NAME (none without).");
        StreetsStepOn x = Due.built(Seen.TOWN);
        x.same(0, 0);
        s.is("day 0", x.mends(0), 0);
        s.row("day 0", x);
        s.is("the last day", x.mends(LAST), 2);
        s.row("the last day", x, 0, 1);
        s.is("day 5, a bears its own", x.mends(5), 1);
        s.row("day 5, a bears its own", x, 1, 2);
        StreetsStepOn all = NamesBoundaries.twelve("oabcdefghijkl");
        s.is("12 in a cycle", all.mends(1), 11);
        s.row("12 in a cycle", all, 0, 11);
        s.is("6 of 2", all.mends(6), 6);
        s.row("6 of 2", all, 0, 6);
        s.is("no streets", new StreetsStepOn().mends(LAST), 0);
        s.of("29", "NONE: none such.");
        s.refused("-1", y -> y.mends(-1));
        s.refused("behind the last day", y -> y.mends(LAST + 1));
        s.refused("the least", y -> y.mends(Long.MIN_VALUE));
        s.refused("the greatest", y -> y.mends(Long.MAX_VALUE));
    }
}
