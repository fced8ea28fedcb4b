/**
 * For each promise of the document what is due for ordinary inputs, for the edges that it names,
 * and for wrong inputs. Answers are reckoned by hand.
 */
public final class PromisesTest {
    /**
     * NAMES of a, b, c on DAYS 0 .. 5, then again: 012, 102, 120, 210, 201, 021.
     * NAME 0 is borne by 0 1 2 2 1 0, NAME 1 by 1 0 0 1 2 2, NAME 2 by 2 2 1 0 0 1.
     */
    private static final String TOWN = "0-1,5;1-2,3;2-3,4;oab;obc";
    private static final String TWELVE =
            "0-1,5;0-1,5;0-1,5;0-1,5;0-1,5;0-1,5;0-1,5;0-1,5;0-1,5;0-1,5;0-1,5;0-1,5";
    private static final long LAST = 1000000000000L;
    private static final Due due = new Due();

    public static void main(String[] args) {
        p1();
        p2();
        p3();
        p4();
        p4Limits();
        p5();
        p6();
        p7();
        p8();
        p9();
        p10to12();
        p13();
        p14to15();
        p16to18();
        p19to20();
        p21to22();
        p23to24();
        p25to26();
        p27();
        p28();
        p29();
        p30to32();
        p33();
        p34();
        p35();
        p36();
        p37();
        p38();
        p39();
        p40();
        p41();
        p42();
        p43();
        p44();
        p45();
        p46to47();
        p48to49();
        p50to52();
        refusedChangeNothing();
        due.finish();
    }

    private static StreetsStepOn town() {
        return Due.built(TOWN);
    }

    private static void p1() {
        StreetsStepOn x = new StreetsStepOn();
        due.is("NONE", StreetsStepOn.NONE, -1);
        for (int what = 0; what <= 5; what++) {
            due.is("1: count " + what, x.count(what), 0);
        }
        due.is("1: today", x.today(), 0);
        due.row("1", x);
        due.is("1: far", x.far(0, 1), 999);
        due.is("1: far to itself", x.far(9, 9), 0);
        due.is("1: name", x.name(0, 0), -1);
        due.is("1: same", x.same(0, 1), 0);
        due.row("1: same", x, 0);
        due.is("1: mends", x.mends(5), 0);
        due.row("1: mends", x);
        due.is("1: choose", x.choose(0), 1);
        due.row("1: choose", x);
        due.is("1: kept", x.kept(), 0);
        due.is("1: proof", x.proof(), 0);
        due.is("1: decree", x.decree(0), 1);
        due.is("1: orders", x.count(1), 1);
        due.is("1: cycles", x.cycles(0), 0);
        due.row("1: cycles", x);
        due.is("1: roots", x.roots(0, 2), 1);
        due.row("1: roots", x);
        due.is("1: period", x.period(), 1);
        due.row("1: period", x, 1);
    }

    private static void p2() {
        StreetsStepOn x = new StreetsStepOn();
        for (int i = 1; i <= 20; i++) {
            due.is("2: sign", x.sign(i), 4 * i);
        }
        due.is("2: sign 81", x.sign(0), -1);
        due.is("2: count", x.count(5), 80);
        x.end(77);
        due.is("2: would be 81", x.sign(0), -1);
        x.end(76);
        due.is("2: would be 80", x.sign(0), 80);
        x.end(0);
        x.sign(0x302D312C);
        x.sign(0x37000000);
        x.end(5);
        due.is("2: the highest byte first", x.town(), 1);
        due.is("2: length", x.street(0, 2), 7);
        x.sign(0xFF302D31);
        due.is("2: a byte above 127", x.town(), -1);
    }

    private static void p3() {
        StreetsStepOn x = new StreetsStepOn();
        due.is("3: end 0", x.end(0), true);
        due.is("3: end 1", x.end(1), false);
        due.is("3: end -1", x.end(-1), false);
        x.sign(0x6F6F6F6F);
        due.is("3: end 5", x.end(5), false);
        due.is("3: nothing changed", x.count(5), 4);
        due.is("3: end 4", x.end(4), true);
        due.is("3: end 1", x.end(1), true);
        due.is("3: cut", x.count(5), 1);
        due.is("3: the first is left", x.town(), 1);
        due.is("3: least", x.end(Integer.MIN_VALUE), false);
    }

    private static void fault(String text, int p) {
        StreetsStepOn x = Due.built("0-1,5;o");
        due.is("4: " + text, Due.town(x, text), -1 - p);
        due.is("4: streets behind " + text, x.count(0), 1);
        due.is("4: orders behind " + text, x.count(1), 1);
        due.is("4: text behind " + text, x.count(5), 0);
    }

    private static void p4() {
        StreetsStepOn x = new StreetsStepOn();
        due.is("4: nothing", x.town(), 0);
        due.is("4: lines", Due.town(x, "o;9-0,20;0-9,1;ob;oa.b;oba"), 6);
        due.is("4: text is empty", x.count(5), 0);
        due.is("4: streets", x.count(0), 2);
        due.is("4: orders", x.count(1), 4);
        due.is("4: first", x.street(0, 0), 9);
        due.is("4: other", x.street(0, 1), 0);
        due.is("4: length", x.street(0, 2), 20);
        due.is("4: by o", x.next(0, 1), 1);
        due.is("4: by ob", x.next(1, 1), 1);
        due.is("4: by oa.b", x.next(2, 0), 0);
        due.is("4: by oba", x.next(3, 0), 1);
        due.is("4: by oba", x.next(3, 1), 0);
        due.is("4: behind what there is", Due.town(x, "1-2,05;ocab"), 2);
        due.is("4: 05 is 5", x.street(2, 2), 5);
        due.is("4: told later, stays", x.next(3, 2), 2);
        due.is("4: c then a", x.next(4, 2), 0);
        due.is("4: a then b", x.next(4, 0), 1);
        due.is("4: b then c", x.next(4, 1), 2);
        fault(";", 0);
        fault("x", 0);
        fault("a", 0);
        fault("0", 1);
        fault("0;", 1);
        fault("0-", 2);
        fault("0-0,1", 2);
        fault("0-a", 2);
        fault("0-1", 3);
        fault("0-1;", 3);
        fault("0-1,", 4);
        fault("0-1,;", 4);
        fault("0-1,0", 4);
        fault("0-1,0;o", 4);
        fault("0-1,0x", 4);
        fault("0-1,00", 5);
        fault("0-1,21", 5);
        fault("0-1,99;", 5);
        fault("0-1,123", 6);
        fault("0-1,253", 5);
        fault("0-1,5;", 6);
        fault("0-1,5;;", 6);
        fault("0-1,5 ", 5);
        fault("oc", 1);
        fault("ob", 1);
        fault("oaa", 2);
        fault("oa.a", 3);
        fault("oa.", 3);
        fault("oa.;", 3);
        fault("o.", 1);
        fault("oa..", 3);
        fault("oA", 1);
        fault("om", 1);
        fault("1-2,5;oc", 7);
        fault("ob;1-2,5", 1);
        fault("1-2,5;1-2,5;obca;oabcb", 21);
    }

    private static void p4Limits() {
        StreetsStepOn x = new StreetsStepOn();
        due.is("4: 75 signs", Due.town(x, TWELVE + ";o;o"), 14);
        due.is("4: no room for a street", Due.town(x, "o;3-4,1"), -3);
        due.is("4: no room, worse behind it", Due.town(x, "3-3,99"), -1);
        due.is("4: up to 7 orders", Due.town(x, "oab;oabcdefghijkl;ol.k.j;o;o"), 5);
        due.is("4: no room for an order", Due.town(x, "o"), -1);
        due.is("4: l to l", x.next(4, 11), 11);
        due.is("4: l to a", x.next(3, 11), 0);
        String twelveOf72 = TWELVE.substring(0, 70) + "10";
        due.is("4: 76 signs", Due.town(new StreetsStepOn(), twelveOf72 + ";o;o"), 14);
        due.is("4: 77 signs, could end", Due.town(new StreetsStepOn(), twelveOf72 + ";o;o;"), -77);
        due.is("4: 80 signs, could go on", Due.town(new StreetsStepOn(), twelveOf72 + ";oa;abcd"), -77);
        due.is("4: 76 signs, too early", Due.town(new StreetsStepOn(), TWELVE + ";o;o;"), -77);
        due.is("4: 77 signs, bad at 75", Due.town(new StreetsStepOn(), TWELVE + ";o;o,o"), -76);
        String eleven = TWELVE.substring(0, 65) + ";oabc;0-1,";
        due.is("4: a 2 at 75 alone", Due.town(new StreetsStepOn(), eleven + "2"), 13);
        due.is("4: a 2 at 75, 5 behind", Due.town(new StreetsStepOn(), eleven + "25"), -77);
        due.is("4: a 0 at 75, 5 behind", Due.town(new StreetsStepOn(), eleven + "05"), -76);
        due.is("4: a 0 at 75", Due.town(new StreetsStepOn(), eleven + "0"), -76);
        String later = TWELVE.substring(0, 65) + ";oab;0-1,";
        due.is("4: 99 up to 75", Due.town(new StreetsStepOn(), later + "99;"), -76);
        due.is("4: 05 up to 75", Due.town(new StreetsStepOn(), later + "05"), 13);
    }

    private static void p5() {
        StreetsStepOn x = town();
        due.is("5: first", x.street(1, 0), 1);
        due.is("5: other", x.street(1, 1), 2);
        due.is("5: length", x.street(1, 2), 3);
        due.is("5: name", x.street(1, 3), 1);
        x.pass(2);
        due.is("5: name today", x.street(1, 3), 2);
        due.throwsNone("5: street 3", () -> x.street(3, 0));
        due.throwsNone("5: street -1", () -> x.street(-1, 0));
        due.throwsNone("5: what 4", () -> x.street(0, 4));
        due.throwsNone("5: what -1", () -> x.street(0, -1));
        due.throwsNone("5: no streets", () -> new StreetsStepOn().street(0, 0));
    }

    private static void p6() {
        StreetsStepOn x = town();
        due.is("6: a by ab", x.next(0, 0), 1);
        due.is("6: c by ab", x.next(0, 2), 2);
        due.is("6: c by bc", x.next(1, 2), 1);
        due.is("6: order 2", x.next(2, 0), -1);
        due.is("6: order -1", x.next(-1, 0), -1);
        due.is("6: street 3", x.next(0, 3), -1);
        due.is("6: street -1", x.next(0, -1), -1);
    }

    private static void lengths(StreetsStepOn x, int... want) {
        for (int i = 0; i < want.length; i++) {
            due.is("7: length " + i, x.street(i, 2), want[i]);
        }
    }

    private static void p7() {
        StreetsStepOn x = town();
        due.is("7: ints", x.sheet(2, 3, 3, 4), 21);
        lengths(x, 3, 7, 11);
        due.is("7: far of them", x.far(0, 3), 21);
        due.is("7: those behind", x.sheet(2, 1, 30, 4), 22);
        lengths(x, 20, 1, 1);
        due.is("7: below", x.sheet(2, 2, -5, 9), 6);
        lengths(x, 1, 4, 1);
        due.is("7: bytes", x.sheet(0, 3, 261, 128), 11);
        lengths(x, 5, 1, 5);
        due.is("7: shorts", x.sheet(1, 3, 65536 + 7, 32768), 15);
        lengths(x, 7, 1, 7);
        due.is("7: ints around", x.sheet(2, 2, Integer.MAX_VALUE, 6), 22);
        lengths(x, 20, 1, 1);
        due.is("7: more entries than streets", x.sheet(2, 12, 2, 0), 6);
        due.is("7: no entries", x.sheet(2, 0, 9, 9), 3);
        x.sheet(2, 3, 2, 0);
        due.is("7: another kind", x.sheet(4, 3, 9, 9), -1);
        due.is("7: another kind", x.sheet(-1, -1, 9, 9), -1);
        due.is("7: 13", x.sheet(0, 13, 9, 9), -1);
        due.is("7: missing, 13", x.sheet(3, 13, 9, 9), -1);
        due.is("7: below 0", x.sheet(0, -1, 9, 9), -2);
        due.is("7: below 0", x.sheet(1, -1, 9, 9), -2);
        due.is("7: below 0", x.sheet(2, Integer.MIN_VALUE, 9, 9), -2);
        lengths(x, 2, 2, 2);
        due.is("7: missing", x.sheet(3, -1, 9, 9), -3);
        lengths(x, 1, 1, 1);
        due.is("7: far of missing", x.far(0, 3), 3);
        due.is("7: no streets", new StreetsStepOn().sheet(0, 3, 1, 1), 0);
    }

    private static void p8() {
        StreetsStepOn x = Due.built("0-1,20;1-2,5;2-0,5;4-5,1;4-5,9");
        due.is("8: round about", x.far(0, 1), 10);
        due.is("8: back", x.far(1, 0), 10);
        due.is("8: the shorter of two", x.far(5, 4), 1);
        due.is("8: no way", x.far(0, 4), 999);
        due.is("8: itself", x.far(7, 7), 0);
        due.is("8: 10", x.far(0, 10), -1);
        due.is("8: -1", x.far(-1, 0), -1);
        StreetsStepOn chain = Due.built("0-1,20;1-2,20;2-3,20;3-4,20;4-5,20;5-6,20;6-7,20;7-8,20;8-9,20");
        due.is("8: the longest", chain.far(9, 0), 180);
    }

    private static void p9() {
        StreetsStepOn x = town();
        due.is("9: 0", x.pass(0), 0);
        due.is("9: 1", x.pass(1), 1);
        due.is("9: 3", x.pass(3), 0);
        due.is("9: today", x.today(), 4);
        due.is("9: -1", x.pass(-1), -1);
        due.is("9: beyond", x.pass(LAST - 3), -1);
        due.is("9: most", x.pass(Long.MAX_VALUE), -1);
        due.is("9: least", x.pass(Long.MIN_VALUE), -1);
        due.is("9: today", x.today(), 4);
        due.is("9: to the last", x.pass(LAST - 4), 0);
        due.is("9: today", x.today(), LAST);
        due.is("9: beyond the last", x.pass(1), -1);
        due.is("9: without orders", new StreetsStepOn().pass(7), 0);
    }

    private static void p10to12() {
        StreetsStepOn x = town();
        int[][] names = {{0, 1, 2}, {1, 0, 2}, {1, 2, 0}, {2, 1, 0}, {2, 0, 1}, {0, 2, 1}};
        for (int day = 0; day < 13; day++) {
            for (int street = 0; street < 3; street++) {
                int name = names[day % 6][street];
                due.is("10: name on " + day, x.name(street, day), name);
                due.is("11: where on " + day, x.where(name, day), street);
            }
        }
        due.is("10: far", x.name(0, LAST), 2);
        due.is("11: far", x.where(2, LAST), 0);
        due.is("10: beyond", x.name(0, LAST + 1), -1);
        due.is("11: beyond", x.where(0, LAST + 1), -1);
        due.is("10: below", x.name(0, -1), -1);
        due.is("11: below", x.where(0, -1), -1);
        due.is("10: street 3", x.name(3, 0), -1);
        due.is("11: name 3", x.where(3, 0), -1);
        due.is("10: street -1", x.name(-1, 0), -1);
        due.is("11: name -1", x.where(-1, 0), -1);
        due.is("12: 1 and 2", x.same(1, 2), 1);
        due.row("12", x, 1);
        due.is("12: 2 and 3", x.same(2, 3), 1);
        due.row("12", x, 4);
        due.is("12: 5 and LAST less 5", x.same(5, LAST - 5), 3);
        due.row("12", x, 7);
        due.is("12: 0 and 2", x.same(0, 2), 0);
        due.row("12", x, 0);
        due.is("12: wrong", x.same(0, -1), -1);
        due.is("12: wrong", x.same(LAST + 1, 0), -1);
        due.row("12: as it was", x, 0);
        StreetsStepOn still = Due.built("0-1,5;1-2,5");
        due.is("10: without orders", still.name(1, LAST), 1);
    }

    private static void p13() {
        StreetsStepOn x = town();
        due.is("13", x.period(), 6);
        due.row("13", x, 6);
        x = Due.built("0-1,5;0-1,5;0-1,5;o;oabc");
        due.is("13: a quiet night first", x.period(), 1);
        due.row("13: a quiet night first", x, 6);
        x = Due.built("0-1,5;0-1,5;oab;oab;oab");
        due.is("13: the week is longer", x.period(), 2);
        due.row("13: the week is longer", x, 6);
        due.is("13: without orders", Due.built("0-1,5").period(), 1);
        x = Due.built("o;o;o");
        due.is("13: without streets", x.period(), 1);
        due.row("13: without streets", x, 1);
        x = Due.built(TWELVE);
        Due.town(x, "oabc.defg.hijkl;o;o;o;o;o;o");
        due.is("13: the longest", x.period(), 60 * 7 - 6);
        due.row("13: the longest", x, 420);
        due.is("13: a has stepped twice", x.name(0, 420 * 1000000L + 8), 2);
        due.is("13: g has stepped once", x.name(6, 420 * 1000000L + 7), 3);
        due.is("13: h has stepped 59 times", x.name(7, 420 * 1000000L - 7), 11);
        due.is("13: and 60 times", x.name(7, 420 * 1000000L - 6), 7);
    }

    private static void p14to15() {
        StreetsStepOn x = town();
        due.is("14: a bears b", x.meets(0, 1, 0), 1);
        due.is("14: above", x.meets(0, 1, 1), 2);
        due.is("14: above", x.meets(0, 1, 2), 7);
        due.is("14: its own", x.meets(1, 1, 0), 3);
        due.is("14: behind the last", x.meets(0, 0, LAST), LAST + 1);
        due.is("14: behind the last", x.meets(1, 1, LAST), LAST + 2);
        due.is("14: street", x.meets(3, 0, 0), -1);
        due.is("14: name", x.meets(0, 3, 0), -1);
        due.is("14: day", x.meets(0, 0, LAST + 1), -1);
        due.is("14: day", x.meets(0, 0, -1), -1);
        StreetsStepOn two = Due.built("0-1,5;0-1,5;0-1,5;oab");
        due.is("14: never", two.meets(0, 2, 5), -2);
        due.is("14: each day", two.meets(2, 2, 5), 6);
        due.is("14: without orders", Due.built("0-1,5").meets(0, 0, 9), 10);
        due.is("15: a and b", x.trade(0, 1, 0), 1);
        due.is("15: b and a", x.trade(1, 0, 1), 7);
        due.is("15: a and c", x.trade(0, 2, 0), 3);
        due.is("15: b and c", x.trade(1, 2, 0), 5);
        due.is("15: behind the last", x.trade(0, 1, LAST), LAST + 3);
        due.is("15: never", two.trade(0, 2, 0), -2);
        due.is("15: like", x.trade(1, 1, 0), -1);
        due.is("15: none such", x.trade(0, 3, 0), -1);
        due.is("15: none such", x.trade(-1, 0, 0), -1);
        due.is("15: day", x.trade(0, 1, -1), -1);
        due.is("15: day", x.trade(0, 1, LAST + 1), -1);
    }

    private static void p16to18() {
        StreetsStepOn x = town();
        due.is("16: all", x.bears(0), 7);
        due.is("16: 3", x.bears(3), -1);
        due.is("16: -1", x.bears(-1), -1);
        StreetsStepOn two = Due.built("0-1,5;0-1,5;0-1,5;oac");
        due.is("16: a and c", two.bears(2), 5);
        due.is("16: b", two.bears(1), 2);
        due.is("17: 1", x.often(0, 0, 1), 1);
        due.is("17: 1", x.often(0, 1, 1), 0);
        due.is("17: 6", x.often(0, 1, 6), 2);
        due.is("17: 8", x.often(0, 1, 8), 3);
        due.is("17: all", x.often(0, 0, LAST), 333333333332L + 1);
        due.is("17: all", x.often(0, 2, LAST), 333333333332L + 1);
        due.is("17: b is c on day 5 of 6 too, but not of the last 4", x.often(1, 2, LAST), 333333333332L + 1);
        due.is("17: c is b on days 4 and 5", x.often(2, 1, LAST), 333333333332L);
        due.is("17: 0", x.often(0, 0, 0), -1);
        due.is("17: beyond", x.often(0, 0, LAST + 1), -1);
        due.is("17: street", x.often(3, 0, 1), -1);
        due.is("17: name", x.often(0, -1, 1), -1);
        due.is("18: first of equal ones", x.quiet(), 1);
        due.row("18", x, 1);
        StreetsStepOn y = Due.built("0-1,5;0-1,5;0-1,5;oabc;oab;oab");
        due.is("18: days 012 120 210 120 201 021 201 012 102", y.quiet(), 7);
        due.row("18", y, 3);
        StreetsStepOn z = Due.built("0-1,5;0-1,5;o;oab");
        due.is("18: day 1 as day 0", z.quiet(), 1);
        due.row("18", z, 2);
        StreetsStepOn still = Due.built("0-1,5;o");
        still.same(0, 0);
        due.is("18: no other day", still.quiet(), -2);
        due.row("18: as it was", still, 1);
    }

    private static void p19to20() {
        StreetsStepOn x = town();
        due.is("19: street", x.letter(3, 0), -1);
        due.is("19: street", x.letter(-1, 0), -1);
        due.is("19: day", x.letter(0, -1), -1);
        due.is("19: day", x.letter(0, LAST + 1), -1);
        for (int i = 0; i < 12; i++) {
            due.is("19", x.letter(i % 3, i == 11 ? LAST : i), i);
        }
        due.is("19: 13", x.letter(0, 0), -1);
        due.is("19: count", x.count(2), 12);
        x.pass(3);
        due.is("20: name 1 of day 4", x.home(4), 2);
        due.row("20", x, 1, -1);
        due.is("20: name 0 of day 0", x.home(0), 0);
        due.row("20", x, 2, 3);
        due.is("20: name 2 of the last day", x.home(11), 0);
        due.row("20", x, 0, 3 - LAST);
        due.is("20: 12", x.home(12), -1);
        due.is("20: -1", x.home(-1), -1);
        x.swap(0, 1);
        due.is("20: by orders as they are", x.home(4), x.where(1, 4));
    }

    private static void p21to22() {
        StreetsStepOn x = town();
        due.is("21: 1 .. 3", x.means(0, 1, 3), 6);
        due.row("21", x, 2, 2, 2);
        due.is("21: 0 .. 5", x.means(0, 0, 5), 7);
        due.row("21", x, 3, 0, 2);
        due.is("21: 1000 days", x.means(1, 1, 1000), 7);
        due.row("21", x, 3, 0, 334);
        due.is("21: the last day", x.means(2, LAST, LAST), 1);
        due.row("21", x, 1, 0, 1);
        due.is("21: 1001 days", x.means(0, 0, 1000), -1);
        due.is("21: no day", x.means(0, 2, 1), -1);
        due.is("21: below", x.means(0, -1, 1), -1);
        due.is("21: beyond", x.means(0, LAST, LAST + 1), -1);
        due.is("21: far apart", x.means(0, Long.MIN_VALUE, Long.MAX_VALUE), -1);
        due.is("21: name", x.means(3, 0, 1), -1);
        due.row("21: as it was", x, 1, 0, 1);
        due.is("22: days 0 2 4", x.smudge(2, 0), 7);
        due.row("22", x, 3, 0, 1);
        due.is("22: order 2", x.smudge(0, 2), -1);
        due.is("22: order -1", x.smudge(0, -1), -1);
        due.is("22: name", x.smudge(3, 0), -1);
        StreetsStepOn y = Due.built("0-1,5;0-1,5;0-1,5;o;oab");
        due.is("22: days 0 2 of 0 1 2 3", y.smudge(0, 0), 3);
        due.row("22", y, 2, 0, 1);
        StreetsStepOn z = Due.built("0-1,5;0-1,5;0-1,5;oab;obc;oab");
        due.is("22: days 0 3 of 012 102 120 210 120 102", z.smudge(1, 0), 2);
        due.row("22", z, 1, 1, 2);
        due.is("22: days 2 5 of 012 102 120 210 120 102", z.smudge(0, 2), 6);
        due.row("22", z, 2, 1, 1);
    }

    private static void p23to24() {
        StreetsStepOn x = town();
        x.letter(0, 2);
        x.letter(2, 1);
        x.letter(0, 6);
        due.is("23: 0", x.misread(0, 0), 2);
        due.is("23: bc then ab", x.misread(0, 1), 1);
        due.is("23: 2 is as 0", x.misread(0, 2), 2);
        due.is("23: 5 is as 1", x.misread(1, 5), 1);
        due.is("23: 6", x.misread(1, 6), 2);
        due.is("23: 7", x.misread(0, 7), -1);
        due.is("23: -1", x.misread(0, -1), -1);
        due.is("23: letter", x.misread(3, 0), -1);
        due.is("24", x.shifts(0), 1);
        due.row("24", x, 1);
        due.is("24: all", x.shifts(2), 2);
        due.row("24: all", x, 3);
        due.is("24: letter", x.shifts(3), -1);
        due.is("24: letter", x.shifts(-1), -1);
        due.row("24: as it was", x, 3);
        StreetsStepOn still = Due.built("0-1,5;0-1,5");
        still.letter(1, 7);
        due.is("23: without orders", still.misread(0, 6), 1);
        due.is("24: without orders", still.shifts(0), 0);
        due.row("24: without orders", still, 0);
    }

    private static void p25to26() {
        StreetsStepOn x = town();
        due.is("25: one home", x.asks(0, 2, 3), 0);
        due.row("25: one home", x, -1, 1);
        due.is("25: 012 102", x.asks(0, 0, 1), 1);
        due.row("25: 012 102", x, 0, 2);
        due.is("25: 102 120", x.asks(0, 1, 2), 1);
        due.row("25: 102 120: not a", x, 1, 2);
        due.is("25: all", x.asks(1, 0, 59), 2);
        due.row("25: all", x, 0, 3);
        due.is("25: 61 days", x.asks(0, 0, 60), -1);
        due.is("25: no day", x.asks(0, 1, 0), -1);
        due.is("25: below", x.asks(0, -1, 0), -1);
        due.is("25: beyond", x.asks(0, LAST, LAST + 1), -1);
        due.is("25: name", x.asks(3, 0, 1), -1);
        due.row("25: as it was", x, 0, 3);
        StreetsStepOn six = Due.built("0-1,5;0-1,5;0-1,5;0-1,5;0-1,5;0-1,5;oabcdef");
        due.is("25: a cycle of 6", six.asks(4, 0, 59), 1);
        due.row("25: a cycle of 6", six, 0, 6);
        Due.town(six, "0-1,5");
        due.is("25: 7 streets", six.asks(0, 0, 0), -3);
        StreetsStepOn four = Due.built("0-1,5;0-1,5;0-1,5;0-1,5;oabc;oad;odb;oab");
        due.is("25: b, then a or c by what b tells", four.asks(1, 9, 23), 2);
        due.row("25: b, then a or c by what b tells", four, 1, 4);
        x.letter(0, 4);
        due.is("26: a", x.answer(0, 0), 2);
        due.is("26: b", x.answer(0, 1), 0);
        due.is("26: c", x.answer(0, 2), 1);
        due.is("26: street", x.answer(0, 3), -1);
        due.is("26: street", x.answer(0, -1), -1);
        due.is("26: letter", x.answer(1, 0), -1);
        due.is("26: letter", x.answer(-1, 0), -1);
    }

    private static void p27() {
        StreetsStepOn x = Due.built("0-1,5;0-1,5;0-1,5;0-1,5;0-1,5;0-1,5;oab.ecd;o");
        due.is("27", x.cycles(0), 5);
        due.row("27", x, 1, 1, 1, 0, 0, 0);
        due.is("27: as they are", x.cycles(1), 0);
        due.row("27: as they are", x, 6, 0, 0, 0, 0, 0);
        due.is("27: 2", x.cycles(2), -1);
        due.is("27: -1", x.cycles(-1), -1);
        due.row("27: as it was", x, 6, 0, 0, 0, 0, 0);
        StreetsStepOn all = Due.built(TWELVE);
        Due.town(all, "oabcdefghijkl");
        due.is("27: 12", all.cycles(0), 12);
        due.row("27: 12", all, 0, 0, 0, 0, 0, 0, 0, 0, 0, 0, 0, 1);
    }

    private static void p28() {
        StreetsStepOn x = Due.built("0-1,5;0-1,5;0-1,5;0-1,5;oab.cd;oabcd;oabc");
        due.is("28: once", x.roots(0, 1), 1);
        due.row("28: once", x, 1, 0, 3, 2);
        due.is("28: twice", x.roots(0, 2), 2);
        due.row("28: twice, a c b d", x, 2, 3, 1, 0);
        due.is("28: never", x.roots(1, 2), 0);
        due.row("28: none", x);
        due.is("28: a cycle of 3 twice", x.roots(2, 2), 1);
        due.row("28: its other way", x, 2, 0, 1, 3);
        due.is("28: 12 times", x.roots(2, 12), 0);
        due.row("28: none", x);
        due.is("28: thrice", x.roots(1, 3), 1);
        due.row("28: its other way", x, 3, 0, 1, 2);
        due.is("28: n 0", x.roots(0, 0), -1);
        due.is("28: n 13", x.roots(0, 13), -1);
        due.is("28: order 3", x.roots(3, 1), -1);
        due.is("28: order -1", x.roots(-1, 1), -1);
        due.row("28: as it was", x, 3, 0, 1, 2);
        StreetsStepOn six = Due.built("0-1,5;0-1,5;0-1,5;0-1,5;0-1,5;0-1,5;o");
        due.is("28: 6 streets", six.roots(0, 2), 76);
        due.row("28: 6 streets", six, 0, 1, 2, 3, 4, 5);
        Due.town(six, "0-1,5");
        due.is("28: 7 streets", six.roots(0, 2), -3);
        due.row("28: as it was", six, 0, 1, 2, 3, 4, 5);
    }

    private static void p29() {
        StreetsStepOn x = town();
        due.is("29: 102", x.mends(1), 1);
        due.row("29: 102", x, 0, 1);
        due.is("29: 120", x.mends(2), 2);
        due.row("29: 120", x, 0, 2);
        due.is("29: 021", x.mends(5), 1);
        due.row("29: 021", x, 1, 2);
        due.is("29: 201, the last day", x.mends(LAST), 2);
        due.row("29: 201, the last day", x, 0, 1);
        due.is("29: below", x.mends(-1), -1);
        due.is("29: beyond", x.mends(LAST + 1), -1);
        due.row("29: as it was", x, 0, 1);
        due.is("29: none", x.mends(6), 0);
        due.row("29: none", x);
        StreetsStepOn y = Due.built("0-1,5;0-1,5;0-1,5;0-1,5;0-1,5;oab.ced");
        due.is("29: two cycles", y.mends(1), 3);
        due.row("29: two cycles", y, 0, 1);
    }

    private static void p30to32() {
        StreetsStepOn x = town();
        x.letter(0, 2);
        x.letter(0, 0);
        due.is("30: below day 0", x.carries(1, 99), 0);
        due.row("30: below day 0", x, 1, 0);
        x.pass(4);
        due.is("30: today", x.carries(0, 0), 1);
        due.row("30: today", x, 0, 3);
        due.is("30: 2 ago", x.carries(0, 2), 2);
        due.row("30: 2 ago", x, 1, 0);
        due.is("30: 100", x.carries(0, 100), -1);
        due.is("30: -1", x.carries(0, -1), -1);
        due.is("30: letter", x.carries(2, 0), -1);
        due.row("30: as it was", x, 1, 0);
        due.is("31", x.best(0), 1);
        due.is("31: 0", x.best(1), 4);
        due.is("31: letter", x.best(2), -1);
        due.is("31: letter", x.best(-1), -1);
        due.is("31: none yet", never().best(0), -2);
        due.is("32: days 4 .. 9", x.days(0, 0, 6), 2);
        due.row("32: days 4 .. 9", x, 8);
        due.is("32: day 4", x.days(0, 0, 1), 0);
        due.row("32: day 4", x, -1);
        due.is("32: 2 late", x.days(0, 2, 1), 1);
        due.row("32: 2 late", x, 4);
        due.is("32: 1000", x.days(0, 0, 1000), 332);
        due.is("32: 99 late, of day 0 till 103", x.days(1, 99, 1000), 396);
        due.row("32: 99 late", x, 4);
        due.is("32: n 0", x.days(0, 0, 0), -1);
        due.is("32: n 1001", x.days(0, 0, 1001), -1);
        due.is("32: 100", x.days(0, 100, 1), -1);
        due.is("32: -1", x.days(0, -1, 1), -1);
        due.is("32: letter", x.days(2, 0, 1), -1);
        StreetsStepOn apart = Due.built("0-1,5;2-3,5;oab");
        apart.letter(0, 1);
        due.is("30: no way", apart.carries(0, 0), 0);
        due.row("30: no way", apart, 0, 999);
    }

    /** On DAY 0 a LETTER of DAY 1, which no postman of DAY 0 can bring HOME. */
    private static StreetsStepOn never() {
        StreetsStepOn x = town();
        x.letter(0, 1);
        return x;
    }

    private static void p33() {
        StreetsStepOn x = town();
        due.is("33: no letters", x.postman(1), -1);
        x.letter(0, 2);
        x.letter(1, 2);
        x.pass(4);
        due.is("33: 0", x.postman(0), -1);
        due.is("33: 31", x.postman(31), -1);
        due.is("33: day 4", x.postman(1), 2);
        due.row("33: day 4", x, 2, 0);
        due.is("33: days 4 .. 6", x.postman(3), 3);
        due.row("33: days 4 .. 6: names of 1 .. 3", x, 4, 0);
        due.is("33: 30 days", x.postman(30), 0);
        due.row("33: 30 days", x, 20, 20);
        StreetsStepOn y = never();
        y.letter(0, 0);
        due.is("33: with 0", y.postman(1), 0);
        due.row("33: with 0", y, 1, 1);
    }

    private static void p34() {
        StreetsStepOn x = town();
        x.letter(0, 2);
        x.letter(1, 4);
        due.is("34: names of day 0 for 99 days", x.travels(0, 0), 101);
        due.row("34: a, b, c", x, 3, 8);
        due.is("34: 99 late", x.travels(0, 99), 101);
        due.row("34: a, b, c", x, 3, 8);
        x.pass(200);
        due.is("34: at once", x.travels(0, 0), 0);
        due.row("34: at once", x, 1, 0);
        due.is("34: day 101", x.travels(0, 99), 3);
        due.row("34: 5 0 1 2 of the turn", x, 3, 8);
        due.is("34: 98 late stays a day", x.travels(1, 98), 5);
        due.row("34: b b a a b c", x, 3, 13);
        due.is("34: 100", x.travels(0, 100), -1);
        due.is("34: -1", x.travels(0, -1), -1);
        due.is("34: letter", x.travels(2, 0), -1);
        StreetsStepOn apart = Due.built("0-1,5;2-3,5;oab");
        apart.letter(0, 1);
        due.is("34: no way", apart.travels(0, 99), 100);
        due.row("34: no way", apart, 2, -1);
    }

    private static void p35() {
        StreetsStepOn x = town();
        x.letter(0, 2);
        x.letter(2, 0);
        due.is("35: a long day", x.round(3, 1, 100), 12);
        due.row("35: a long day", x, 0);
        due.is("35: the house comes nearer", x.round(3, 1, 2), 4);
        due.is("35: only when day 7 begins", x.round(3, 1, 1), 7);
        due.is("35: at once", x.round(0, 1, 1), 0);
        due.is("35: a long day, two", x.round(1, 3, 100), 11);
        due.row("35: c then a, or a then c", x, 1, 0);
        due.is("35: a comes nearer on day 1", x.round(2, 3, 2), 3);
        due.row("35: a comes nearer on day 1", x, 1, 0);
        due.is("35: one waits for day 1", x.round(1, 1, 3), 3);
        due.row("35: one waits for day 1", x, 0);
        due.is("35: no way", x.round(9, 1, 999), -2);
        due.row("35: as it was", x, 0);
        due.is("35: place", x.round(10, 1, 1), -1);
        due.is("35: place", x.round(-1, 1, 1), -1);
        due.is("35: none", x.round(0, 0, 1), -1);
        due.is("35: letter", x.round(0, 4, 1), -1);
        due.is("35: below", x.round(0, Integer.MIN_VALUE, 1), -1);
        due.is("35: minutes", x.round(0, 1, 0), -1);
        due.is("35: minutes", x.round(0, 1, 1000), -1);
        StreetsStepOn y = Due.built("0-1,5;0-2,5");
        for (int i = 0; i < 7; i++) {
            y.letter(i % 2, 0);
        }
        due.is("35: 6 letters", y.round(1, 126, 9), 5);
        due.row("35: the least row", y, 1, 2, 3, 4, 5, 6);
        due.is("35: 7 letters", y.round(1, 127, 9), -1);
        for (int i = 7; i < 12; i++) {
            y.letter(i % 2, 0);
        }
        due.is("35: the last letter of 12", y.round(2, 1 << 11, 9), 5);
        due.row("35: the last letter of 12", y, 11);
        StreetsStepOn far = Due.built("0-1,20;1-2,20;2-3,20;3-4,20;4-5,20;5-6,20;0-9,20");
        far.letter(6, 0);
        due.is("35: day 99", far.round(5, 1, 2), 100);
        due.is("35: day 100 on", far.round(5, 1, 1), -2);
        due.is("35: the last minute of day 99", far.round(6, 1, 2), 120);
    }

    private static void ruleFault(String text, int p) {
        StreetsStepOn x = town();
        x.letter(0, 0);
        Due.rule(x, "7");
        due.is("36: " + text, Due.rule(x, text), -1 - p);
        due.is("36: text behind " + text, x.count(5), 0);
        due.is("36: as it was behind " + text, x.late(0, 0, 0), 7);
    }

    private static void p36() {
        StreetsStepOn x = new StreetsStepOn();
        due.is("36: none", x.rule(), 0);
        for (String text : new String[] {"a", "999", "---k", "a<k", "(a<k)<n", "((((a))))", "a*-k%w/o",
            "(a<k)=(n>s)", "1+(2)-(((3)))", "0-1,5".substring(0, 3)}) {
            due.is("36: " + text, Due.rule(x, text), 0);
        }
        ruleFault("x", 0);
        ruleFault("+", 0);
        ruleFault(")", 0);
        ruleFault("-", 1);
        ruleFault("1234", 3);
        ruleFault("a1", 1);
        ruleFault("1a", 1);
        ruleFault("ak", 1);
        ruleFault("a<", 2);
        ruleFault("a<k<n", 3);
        ruleFault("(a<k=n)", 4);
        ruleFault("a+*k", 2);
        ruleFault("(((((a", 4);
        ruleFault("((((a)))", 8);
        ruleFault("(a))", 3);
        ruleFault("()", 1);
        ruleFault("a ", 1);
        String forty = "a+a+a+a+a+a+a+a+a+a+a+a+a+a+a+a+a+a+a+11";
        due.is("36: 40 signs", Due.rule(x, forty), 0);
        ruleFault(forty + "+", 40);
        ruleFault(forty + "x", 40);
        ruleFault(forty.substring(0, 39) + ")a", 39);
        ruleFault(forty.substring(0, 38) + "((a))", 40);
        ruleFault(forty.substring(0, 38) + "--", 40);
    }

    private static void value(StreetsStepOn x, String text, int want) {
        due.is("37: rule " + text, Due.rule(x, text), 0);
        due.is("37: " + text, x.late(0, 4, 2), want);
    }

    private static void p37() {
        StreetsStepOn x = town();
        x.letter(1, 2);
        x.pass(5);
        due.is("37: no rule", x.late(0, 4, 2), 0);
        value(x, "a", 3);
        value(x, "k", 4);
        value(x, "n", 1);
        value(x, "s", 2);
        value(x, "w", 1);
        value(x, "o", 2);
        value(x, "99", 99);
        value(x, "100", 99);
        value(x, "-1", 0);
        value(x, "50-3-4", 43);
        value(x, "2+3*4", 14);
        value(x, "90/4/5", 4);
        value(x, "29%10*2", 18);
        value(x, "(2+3)*4", 20);
        value(x, "7/0", 0);
        value(x, "9+7%0", 9);
        value(x, "20+-7/2", 17);
        value(x, "20+-7%3", 19);
        value(x, "20+7%-3", 21);
        value(x, "---5+9", 4);
        value(x, "--5", 5);
        value(x, "5--4", 9);
        value(x, "1+2<4", 1);
        value(x, "4<4", 0);
        value(x, "5>4", 1);
        value(x, "2*2=4", 1);
        value(x, "(1<2)+(3>2)*9", 10);
        value(x, "999*999*999*999-(-1)", 0);
        value(x, "999*999*999", 99);
        value(x, "20+999*999*999*999%7", 18);
        value(x, "999*999*999*999*999*999*999*999%100", 21);
        x.letter(0, 5 + 20000);
        Due.rule(x, "a+999*10+8");
        due.is("37: later", x.late(1, 0, 0), 0);
        Due.rule(x, "a+999*10+14");
        due.is("37: at least -9999", x.late(1, 0, 0), 5);
        x.pass(30000);
        Due.rule(x, "a-999*10");
        due.is("37: at most 9999", x.late(0, 0, 0), 9);
        due.throwsNone("37: letter", () -> x.late(2, 0, 0));
        due.throwsNone("37: letter", () -> x.late(-1, 0, 0));
        due.throwsNone("37: k", () -> x.late(0, -1, 0));
        due.throwsNone("37: street", () -> x.late(0, 0, 3));
        due.throwsNone("37: street", () -> x.late(0, 0, -1));
        Due.rule(x, "k/99999".substring(0, 5));
        due.is("37: a great k", x.late(0, Integer.MAX_VALUE, 0), 99);
        due.is("37: an empty rule", x.rule(), 0);
        due.is("37: none again", x.late(0, 9, 0), 0);
        StreetsStepOn still = Due.built("0-1,5");
        still.letter(0, 0);
        still.pass(3);
        Due.rule(still, "w+o+5");
        due.is("37: without orders", still.late(0, 0, 0), 5);
    }

    private static void p38() {
        StreetsStepOn x = town();
        x.letter(0, 2);
        x.letter(1, 4);
        due.is("38: no rule", x.sends(0), 2);
        due.row("38: a, b, c", x, 3, 8);
        Due.rule(x, "k%6");
        due.is("38: never", x.sends(0), -2);
        due.row("38: never from a", x, 1, 0);
        Due.rule(x, "(k%6>3)*2");
        due.is("38: never", x.sends(1), -2);
        due.row("38: to and fro", x, 2, 166 * 20 + 15);
        Due.rule(x, "(a=-4)*9+(s=0)");
        due.is("38: where it lies", x.sends(1), 5);
        due.row("38: day 0, 1, 1, 2, 3, 5", x, 3, 13);
        Due.rule(x, "w");
        due.is("38: by the week", x.sends(0), 2);
        due.row("38: days 0 0 2", x, 2, 8);
        Due.rule(x, "(k<999+1)*(k%6)");
        due.is("38: k 1000 is of day 4", x.sends(1), 1000);
        due.row("38: k 1000", x, 2, 3);
        x.pass(3);
        due.is("38: k 1000 is of day 1", x.sends(1), -2);
        due.row("38: k 1000", x, 2, 5);
        Due.rule(x, "a");
        due.is("38: a knows", x.sends(0), 0);
        due.row("38: a knows", x, 1, 0);
        due.is("38: letter", x.sends(2), -1);
        due.is("38: letter", x.sends(-1), -1);
        StreetsStepOn apart = Due.built("0-1,5;2-3,5;oab");
        apart.letter(0, 1);
        due.is("38: no way", apart.sends(0), 1);
        due.row("38: no way", apart, 2, -1);
    }

    private static void p39() {
        StreetsStepOn x = town();
        due.is("39: all", x.walk(3, 7), 12);
        due.row("39: all", x, 2, 1, 0);
        due.is("39: between", x.walk(1, 7), 11);
        due.row("39: between", x, 1, 2, 0);
        due.is("39: one", x.walk(0, 1), 0);
        due.row("39: one", x, 0);
        due.is("39: no way", x.walk(4, 1), -2);
        due.row("39: as it was", x, 0);
        due.is("39: none", x.walk(0, 0), -1);
        due.is("39: street", x.walk(0, 8), -1);
        due.is("39: below", x.walk(0, -1), -1);
        due.is("39: place", x.walk(10, 1), -1);
        due.is("39: place", x.walk(-1, 1), -1);
        StreetsStepOn all = Due.built(TWELVE);
        due.is("39: 7", all.walk(1, 127 << 5), 5);
        due.row("39: the least row", all, 5, 6, 7, 8, 9, 10, 11);
        due.is("39: 8", all.walk(1, 255), -1);
        StreetsStepOn star = Due.built("1-0,20;2-0,20;3-0,20;4-0,20;5-0,20;6-0,20;7-0,20");
        due.is("39: to and fro", star.walk(0, 127), 13 * 20);
        due.row("39: to and fro", star, 0, 1, 2, 3, 4, 5, 6);
    }

    private static void p40() {
        StreetsStepOn x = town();
        x.letter(0, 0);
        x.letter(1, 0);
        x.letter(2, 0);
        x.letter(2, 0);
        due.is("40: the first of equal ones", x.meet(3), 0);
        due.row("40", x, 5, 5);
        due.is("40: three", x.meet(7), 1);
        due.row("40: three", x, 8, 5);
        due.is("40: each letter counts", x.meet(13), 2);
        due.row("40: each letter counts", x, 8, 8);
        due.is("40: none", x.meet(0), -1);
        due.is("40: letter", x.meet(16), -1);
        due.is("40: below", x.meet(-1), -1);
        Due.town(x, "8-9,1");
        x.letter(3, 0);
        due.is("40: no way", x.meet(17), -2);
        due.row("40: as it was", x, 8, 8);
        due.is("40: alone", x.meet(16), 8);
        due.row("40: alone", x, 0, 0);
        StreetsStepOn all = Due.built(TWELVE);
        for (int i = 0; i < 12; i++) {
            all.letter(i, 0);
        }
        due.is("40: 12", all.meet(4095), 0);
        due.row("40: 12", all, 0, 0);
    }

    private static void p41() {
        StreetsStepOn x = town();
        due.is("41: sort 4", x.wish(4, 0, 1), -1);
        due.is("41: sort -1", x.wish(-1, 0, 1), -1);
        due.is("41: street", x.wish(1, 3, 1), -1);
        due.is("41: street", x.wish(1, -1, 1), -1);
        due.is("41: like streets", x.wish(0, 1, 1), -1);
        due.is("41: other street", x.wish(0, 1, 3), -1);
        due.is("41: other street", x.wish(0, 1, -1), -1);
        due.is("41: day 0", x.wish(1, 1, 0), -1);
        due.is("41: day 13", x.wish(1, 1, 13), -1);
        due.is("41: day 0", x.wish(2, 1, 0), -1);
        due.is("41: day 13", x.wish(2, 1, 13), -1);
        due.is("41: next", x.wish(3, 1, 3), -1);
        due.is("41: next", x.wish(3, 1, -1), -1);
        due.is("41: none", x.count(3), 0);
        due.is("41: 0", x.wish(0, 0, 1), 0);
        due.is("41: 1", x.wish(1, 2, 12), 1);
        due.is("41: 2", x.wish(2, 2, 1), 2);
        due.is("41: 3", x.wish(3, 1, 1), 3);
        due.is("41: 4", x.wish(3, 1, 2), 4);
        due.is("41: 5", x.wish(2, 0, 12), 5);
        due.is("41: 6", x.wish(3, 0, 0), -1);
        due.is("41: count", x.count(3), 6);
    }

    private static void p42() {
        StreetsStepOn x = town();
        due.is("42: none", x.kept(), 0);
        x.wish(1, 0, 4);
        x.wish(1, 0, 5);
        x.wish(2, 1, 3);
        x.wish(2, 1, 2);
        x.wish(3, 0, 2);
        x.wish(3, 0, 0);
        due.is("42: b is b on day 3; a stays by bc", x.kept(), 2 + 8 + 16);
        StreetsStepOn two = Due.built("0-1,5;0-1,5;0-1,5;oab");
        two.wish(0, 0, 1);
        two.wish(0, 0, 2);
        two.wish(3, 2, 2);
        two.wish(3, 0, 1);
        due.is("42: a never is c", two.kept(), 2);
        StreetsStepOn still = Due.built("0-1,5;0-1,5");
        still.wish(0, 0, 1);
        still.wish(1, 0, 1);
        still.wish(2, 0, 1);
        still.wish(3, 0, 0);
        due.is("42: without orders", still.kept(), 1 + 2 + 8);
    }

    private static void p43() {
        StreetsStepOn x = Due.built("0-1,5;0-1,5;0-1,5;0-1,5");
        due.is("43: no wishes", x.choose(0), 24);
        due.row("43: no wishes", x, 0, 1, 2, 3);
        x.wish(3, 0, 0);
        x.wish(1, 0, 2);
        x.wish(0, 0, 1);
        x.wish(2, 3, 12);
        due.is("43: a does not stay", x.choose(1), 18);
        due.row("43: a does not stay", x, 1, 0, 2, 3);
        due.is("43: a in a cycle of 2", x.choose(3), 6);
        due.row("43: a in a cycle of 2", x, 1, 0, 2, 3);
        due.is("43: with another one than b", x.choose(7), 4);
        due.row("43: with another one than b", x, 2, 1, 0, 3);
        due.is("43: a not in b's cycle", x.choose(4), 12);
        due.row("43: a not in b's cycle", x, 0, 1, 2, 3);
        due.is("43: 12 is by 1 .. 4", x.choose(8), 0);
        due.row("43: none", x);
        due.is("43: below", x.choose(-1), -1);
        due.is("43: 16", x.choose(16), -1);
        StreetsStepOn six = Due.built("0-1,5;0-1,5;0-1,5;0-1,5;0-1,5;0-1,5");
        due.is("43: 6", six.choose(0), 720);
        six.wish(2, 5, 12);
        due.is("43: a cycle of 5", six.choose(1), 120);
        due.row("43: a cycle of 5", six, 0, 2, 3, 4, 5, 1);
        Due.town(six, "0-1,5");
        due.is("43: 7", six.choose(0), -3);
        due.row("43: as it was", six, 0, 2, 3, 4, 5, 1);
        due.is("43: 7 and wrong", six.choose(2), -1);
    }

    private static void p44() {
        StreetsStepOn x = Due.built("0-1,5;0-1,5;0-1,5");
        due.is("44: no wishes", x.proof(), 0);
        x.wish(3, 0, 0);
        x.wish(0, 0, 1);
        due.is("44: a and c", x.proof(), 0);
        x.wish(3, 2, 0);
        due.is("44: c not to a", x.proof(), 3);
        due.row("44: all three", x, 7);
        x.wish(3, 0, 2);
        due.is("44: of as few the least", x.proof(), 3);
        due.row("44: of as few the least", x, 7);
        x.wish(3, 0, 1);
        due.is("44: a not to a, b, c", x.proof(), 3);
        x.wish(2, 0, 6);
        due.is("44: one alone", x.proof(), 1);
        due.row("44: one alone", x, 32);
        Due.town(x, "0-1,1;0-1,1;0-1,1;0-1,1");
        due.is("44: 7 streets", x.proof(), -3);
        due.row("44: as it was", x, 32);
        StreetsStepOn y = Due.built("0-1,5;0-1,5;0-1,5");
        y.wish(3, 1, 1);
        y.wish(1, 0, 1);
        y.wish(3, 0, 0);
        due.is("44: two, though the first is not in it", y.proof(), 2);
        due.row("44: two", y, 6);
    }

    private static void p45() {
        StreetsStepOn x = town();
        x.wish(3, 0, 0);
        x.wish(2, 0, 6);
        x.letter(0, 2);
        x.pass(7);
        x.same(0, 0);
        due.is("45: none", x.decree(2), 0);
        due.is("45: wrong", x.decree(4), -1);
        due.is("45: wrong", x.decree(-1), -1);
        due.is("45: as it was", x.count(1), 2);
        due.is("45: as it was", x.today(), 7);
        due.row("45: as it was", x, 7);
        due.is("45", x.decree(1), 4);
        due.is("45: the only one", x.count(1), 1);
        due.is("45: a to b", x.next(0, 0), 1);
        due.is("45: c stays", x.next(0, 2), 2);
        due.is("45: day 0", x.today(), 0);
        due.is("45: names", x.name(0, 1), 1);
        due.is("45: letters stay", x.count(2), 1);
        due.is("45: home by the order", x.home(0), 0);
        due.is("45: wishes stay", x.count(3), 2);
        due.is("45: more orders", Due.town(x, "o;o"), 2);
        Due.town(x, "0-1,1;0-1,1;0-1,1;0-1,1");
        due.is("45: 7 streets", x.decree(1), -3);
        due.is("45: as it was", x.count(1), 3);
        due.is("45: d stays", x.next(0, 3), 3);
    }

    private static void p46to47() {
        StreetsStepOn x = town();
        due.is("46", x.swap(0, 1), true);
        due.is("46: bc", x.next(0, 1), 2);
        due.is("46: ab", x.next(1, 0), 1);
        due.is("46: day 1", x.name(2, 1), 1);
        due.is("46: itself", x.swap(1, 1), true);
        due.is("46: 2", x.swap(0, 2), false);
        due.is("46: -1", x.swap(-1, 0), false);
        StreetsStepOn y = Due.built("0-1,5;0-1,5;0-1,5;oabc;oab;oacb;oab");
        due.is("47: as it is", y.period(), 5);
        due.is("47: ab, ab, or abc, acb", y.soonest(), 2);
        due.row("47: the first pair", y, 0, 3, 5);
        due.is("47: nothing changed", y.period(), 5);
        due.is("47: nothing changed", y.next(1, 0), 1);
        StreetsStepOn one = Due.built("0-1,5;oa");
        due.is("47: one order", one.soonest(), -1);
        due.is("47: no orders", new StreetsStepOn().soonest(), -1);
        StreetsStepOn empty = Due.built("o;o;o");
        due.is("47: no streets", empty.soonest(), 1);
        due.row("47: no streets", empty, 0, 1, 1);
        StreetsStepOn late = Due.built("0-1,5;0-1,5;oab;oab;oab;o");
        due.is("47: o first", late.soonest(), 1);
        due.row("47: o first", late, 0, 3, 2);
        longestSoonest();
    }

    /**
     * Six ORDERS are alike, so each change of places only begins the same week elsewhere: the turn
     * is always one of 3, 4 and 5 weeks, and no part of a week undoes any number of weeks.
     */
    private static void longestSoonest() {
        StreetsStepOn x = Due.built(TWELVE);
        Due.town(x, "oabcdefg;oabcdefg;oabcdefg;oabcdefg;oabcdefg;oabcdefg;ochke.ilj");
        due.is("47: the longest, as it is", x.period(), 420);
        due.is("47: by no change it is sooner", x.soonest(), 420);
        due.row("47: the first pair, though none is sooner", x, 0, 1, 420);
    }

    private static void p48to49() {
        StreetsStepOn x = town();
        due.is("49: nothing kept", x.again(0), false);
        x.letter(0, 2);
        x.pass(3);
        due.is("48: 0", x.keep(0), true);
        due.is("48: 2", x.keep(2), false);
        due.is("48: -1", x.keep(-1), false);
        due.is("49: 1 is not kept", x.again(1), false);
        x.letter(1, 2);
        x.pass(4);
        x.swap(0, 1);
        x.sheet(2, 3, 9, 1);
        x.wish(3, 0, 0);
        Due.rule(x, "7");
        Due.town(x, "oabc");
        x.same(0, 0);
        due.is("48: 1", x.keep(1), true);
        Due.type(x, "oabc");
        due.is("49: 0", x.again(0), true);
        due.is("49: orders", x.count(1), 2);
        due.is("49: order 0", x.next(0, 0), 1);
        due.is("49: lengths", x.street(0, 2), 5);
        due.is("49: far", x.far(0, 3), 12);
        due.is("49: today", x.today(), 3);
        due.is("49: letters", x.count(2), 1);
        due.is("49: names", x.name(0, 1), 1);
        due.is("49: wishes stay", x.count(3), 1);
        due.is("49: the rule stays", x.late(0, 0, 0), 7);
        due.is("49: text stays", x.count(5), 4);
        due.row("49: row stays", x, 7);
        due.is("49: 1", x.again(1), true);
        due.is("49: orders", x.count(1), 3);
        due.is("49: order 0", x.next(0, 0), 0);
        due.is("49: lengths", x.street(0, 2), 9);
        due.is("49: today", x.today(), 7);
        due.is("49: letters", x.count(2), 2);
        due.is("49: 2", x.again(2), false);
        due.is("49: -1", x.again(-1), false);
        Due.town(x, "o");
        due.is("49: no street was told", x.again(0), true);
        Due.town(x, "8-9,4");
        due.is("49: a street was told", x.again(0), false);
        due.is("49: a street was told", x.again(1), false);
        due.is("48: anew", x.keep(0), true);
        x.pass(9);
        due.is("49: anew", x.again(0), true);
        due.is("49: anew", x.today(), 3);
    }

    private static void p50to52() {
        StreetsStepOn x = town();
        x.letter(0, 0);
        x.wish(3, 0, 0);
        x.wish(3, 1, 0);
        x.soonest();
        x.sign(0);
        due.is("50: streets", x.count(0), 3);
        due.is("50: orders", x.count(1), 2);
        due.is("50: letters", x.count(2), 1);
        due.is("50: wishes", x.count(3), 2);
        due.is("50: row", x.count(4), 3);
        due.is("50: text", x.count(5), 4);
        due.is("50: 6", x.count(6), -1);
        due.is("50: -1", x.count(-1), -1);
        due.is("51: 0", x.today(), 0);
        x.pass(LAST);
        due.is("51: the last", x.today(), LAST);
        due.row("52", x, 0, 1, 6);
        due.throwsNone("52: most", () -> x.row(Integer.MAX_VALUE));
        due.throwsNone("52: least", () -> x.row(Integer.MIN_VALUE));
        due.throwsNone("52: nothing told", () -> new StreetsStepOn().row(0));
    }

    private static void refusedChangeNothing() {
        StreetsStepOn x = town();
        x.letter(0, 2);
        x.same(0, 0);
        x.town();
        x.rule();
        x.home(1);
        x.means(3, 0, 0);
        x.smudge(0, 2);
        x.shifts(1);
        x.asks(3, 0, 0);
        x.cycles(2);
        x.roots(0, 13);
        x.mends(-1);
        x.carries(0, 100);
        x.days(0, 0, 0);
        x.postman(0);
        x.travels(0, 100);
        x.round(0, 2, 1);
        x.sends(1);
        x.walk(0, 8);
        x.meet(2);
        x.choose(1);
        x.decree(1);
        x.kept();
        x.best(0);
        x.bears(0);
        due.row("refused calls, and those that tell no row", x, 7);
    }
}
