/** Boundaries that promises 1 to 9 name. Answers are reckoned by hand. */
final class TownBoundaries {
    private final Sentences s;

    private TownBoundaries(Sentences sentences) {
        s = sentences;
    }

    static void all(Sentences sentences) {
        TownBoundaries t = new TownBoundaries(sentences);
        t.p1();
        t.p2();
        t.p3();
        t.p4Lines();
        t.p4Early();
        t.p4Long();
        t.p4Places();
        t.p4Numbers();
        t.p4Named();
        t.p4Room();
        t.p4Nothing();
        t.p5();
        t.p6();
        t.p7Entries();
        t.p7Numbers();
        t.p7Refused();
        t.p8();
        t.p9();
    }

    private void p1() {
        s.of("1", "No STREETS; DAY 0.");
        StreetsStepOn x = new StreetsStepOn();
        for (int what = 0; what <= 5; what++) {
            s.is("count " + what, x.count(what), 0);
        }
        s.is("today", x.today(), 0);
        s.throwsNone("street 0", () -> x.street(0, 0));
        s.is("name of street 0", x.name(0, 0), -1);
        s.is("a letter", x.letter(0, 0), -1);
        s.is("the last day can be reached", x.pass(Sentences.LAST), 0);
    }

    private void p2() {
        s.of("2", "Four signs come behind THE TEXT, of v the highest byte first: how many it has.");
        StreetsStepOn x = new StreetsStepOn();
        s.is("the first four", x.sign(0x302D312C), 4);
        s.is("the next four", x.sign(0x373B6F61), 8);
        s.is("0-1,7;oa", x.town(), 2);
        s.is("7 long", x.street(0, 2), 7);
        s.is("the least int", x.sign(Integer.MIN_VALUE), 4);
        s.is("the greatest int", x.sign(Integer.MAX_VALUE), 8);
        s.is("a byte above 127 is not the sign less 128", x.town(), -1);
        x.sign(0xEFBBEFBB);
        s.is("o;o; and 128", x.town(), -1);
        s.of("2", "Refused: there would be more than 80.");
        StreetsStepOn y = new StreetsStepOn();
        for (int i = 1; i <= 20; i++) {
            s.is("up to 80", y.sign(0x6F3B6F3B), 4 * i);
        }
        for (int n = 80; n >= 77; n--) {
            y.end(n);
            s.is("4 behind " + n, y.sign(0x78787878), -1);
            s.is("as many as before", y.count(5), n);
        }
        y.end(76);
        s.is("4 behind 76", y.sign(0x78787878), 80);
        y.end(13);
        s.is("the first signs are as they were", y.town(), 7);
    }

    private void p3() {
        s.of("3", "THE TEXT has its first n signs alone: true; false if it has not so many, or n is below 0.");
        StreetsStepOn x = new StreetsStepOn();
        s.is("0 of none", x.end(0), true);
        s.is("1 of none", x.end(1), false);
        s.is("-1 of none", x.end(-1), false);
        x.sign(0x6F3B6F3B);
        s.is("5 of 4", x.end(5), false);
        s.is("-1 of 4", x.end(-1), false);
        s.is("the least", x.end(Integer.MIN_VALUE), false);
        s.is("the most", x.end(Integer.MAX_VALUE), false);
        s.is("4 still", x.count(5), 4);
        s.is("4 of 4", x.end(4), true);
        s.is("3 of 4", x.end(3), true);
        s.is("3", x.count(5), 3);
        s.is("4 of 3", x.end(4), false);
        s.is("o;o", x.town(), 2);
        x.sign(0x6F3B6F3B);
        s.is("0 of 4", x.end(0), true);
        s.is("none", x.count(5), 0);
        for (int i = 0; i < 20; i++) {
            x.sign(0);
        }
        s.is("81 of 80", x.end(81), false);
        s.is("80 of 80", x.end(80), true);
    }

    private void p4Lines() {
        s.of("4", "THE TEXT tells of THE TOWN (an empty one: nothing): how many LINES.");
        StreetsStepOn x = Due.built(Seen.TOWN);
        x.same(0, 6);
        s.is("empty", x.town(), 0);
        s.is("streets", x.count(0), 3);
        s.is("orders", x.count(1), 2);
        s.is("1", Due.town(x, "o"), 1);
        s.is("2", Due.town(x, "o;8-9,1"), 2);
        s.is("streets", x.count(0), 4);
        s.is("orders", x.count(1), 4);
    }

    /** A text that can be read as far as each of its signs; 0 for ends that come too early. */
    private void p4Early() {
        s.of("4", "-1 - p: the sign at p can't stand there (its end, if it ends too early;");
        String text = "0-1,12;1-0,3;oa.b";
        int[] lines = {0, 0, 0, 0, 0, 1, 1, 0, 0, 0, 0, 0, 2, 0, 3, 3, 0, 3};
        for (int n = 0; n <= text.length(); n++) {
            String first = text.substring(0, n);
            boolean ends = n > 0 && lines[n] == 0;
            s.is("'" + first + "'", Due.town(new StreetsStepOn(), first), ends ? -1 - n : lines[n]);
            for (char bad : new char[] {'x', 'o' + 1, ' ', 0, 'O', 127, 255, '\n'}) {
                s.is("'" + first + "' and " + (int) bad, Due.town(new StreetsStepOn(), first + bad), -1 - n);
            }
        }
        s.is("a letter ahead of o", Due.town(Due.built("0-1,1"), "a"), -1);
        s.is("no -", Due.town(new StreetsStepOn(), "01,1"), -2);
        s.is("no comma", Due.town(new StreetsStepOn(), "0-1;o"), -4);
        s.is("no length", Due.town(new StreetsStepOn(), "0-1,;o"), -5);
        s.is("x ahead of a digit", Due.town(new StreetsStepOn(), "0-1,x5"), -5);
    }

    /** 11 STREETS, an ORDER, then what stands behind, so that its last sign is sign 75, the 76th. */
    private static String upTo75(String behind) {
        String padding = "abcdefghijk".substring(0, 8 - behind.length());
        return TermsBoundaries.streets(11) + ";o" + padding + ";" + behind;
    }

    private void p4Long() {
        s.of("4", "76, if it has more and the first 76 could go on or end;");
        String[] early = {"0", "0-", "0-1", "0-1,", "0-1,5;", "o;", "oa."};
        for (String last : early) {
            s.is("76 signs to " + last, Due.town(new StreetsStepOn(), upTo75(last)), -77);
            s.is("77 signs, could go on behind " + last, Due.town(new StreetsStepOn(), upTo75(last) + "1"), -77);
            s.is("80 signs, behind " + last, Due.town(new StreetsStepOn(), upTo75(last) + "xxxx"), -77);
        }
        String[] whole = {"0-1,5", "0-1,12", "o", "oa", "oa.b", "oabcdefg"};
        for (String last : whole) {
            s.is("76 signs are typed", upTo75(last).length(), 76);
            s.is("76 signs to " + last, Due.town(new StreetsStepOn(), upTo75(last)), 13);
            s.is("77 signs, could end behind " + last, Due.town(new StreetsStepOn(), upTo75(last) + ";"), -77);
            s.is("77 signs, x behind " + last, Due.town(new StreetsStepOn(), upTo75(last) + "x"), -77);
            s.is("80 signs behind " + last, Due.town(new StreetsStepOn(), upTo75(last) + ";o;o"), -77);
        }
        s.is("75 signs and x", Due.town(new StreetsStepOn(), upTo75("0-1x") + "1"), -76);
        s.is("75 signs and x, no more", Due.town(new StreetsStepOn(), upTo75("0-1x")), -76);
        s.is("x at 0 of 80", Due.town(new StreetsStepOn(), "x".repeat(80)), -1);
        StreetsStepOn x = new StreetsStepOn();
        Due.town(x, upTo75("oa") + "b");
        s.is("none of 77 signs came", x.count(0) + x.count(1), 0);
        s.is("the text is empty", x.count(5), 0);
    }

    private void line(String text, int want) {
        s.is(text, Due.town(Due.built("0-1,1;0-1,1"), text), want);
    }

    private void p4Places() {
        s.of("4", "a PLACE like the first one of its STREET,");
        line("0-0,1", -3);
        line("9-9,1", -3);
        line("5-5", -3);
        line("5-5x", -3);
        line("5-4,1", 1);
        line("5-6,1", 1);
        line("0-1,5;7-7,1", -9);
        line("0-1,5;0-1,5", 2);
        s.is("at 75, more behind", Due.town(new StreetsStepOn(), upTo75("5-5") + ",1"), -76);
    }

    private void p4Numbers() {
        s.of("4", "a number too small or too great, as far as it stands in the first 76: at its last digit;");
        line("0-1,0", -5);
        line("0-1,0;o", -5);
        line("0-1,0x", -5);
        line("0-1,00", -6);
        line("0-1,000", -6);
        line("0-1,01", 1);
        line("0-1,1", 1);
        line("0-1,20", 1);
        line("0-1,21", -6);
        line("0-1,21;o", -6);
        line("0-1,219", -6);
        line("0-1,99", -6);
        line("0-1,201", -7);
        line("o;0-1,30", -8);
        s.is("2 at 75, 5 behind", Due.town(new StreetsStepOn(), upTo75("0-1,2") + "5"), -77);
        s.is("1 at 75, 23 behind", Due.town(new StreetsStepOn(), upTo75("0-1,1") + "23"), -77);
        s.is("0 at 75, 5 behind", Due.town(new StreetsStepOn(), upTo75("0-1,0") + "5"), -76);
        s.is("0 at 75", Due.town(new StreetsStepOn(), upTo75("0-1,0")), -76);
        s.is("21 up to 75, more behind", Due.town(new StreetsStepOn(), upTo75("0-1,21") + ";"), -76);
        s.is("00 up to 75, more behind", Due.town(new StreetsStepOn(), upTo75("0-1,00") + ";"), -76);
        s.is("20 up to 75, 1 behind", Due.town(new StreetsStepOn(), upTo75("0-1,20") + "1"), -77);
    }

    private void p4Named() {
        s.of("4", "a STREET that is not there, or named ahead in that ORDER: at its letter;");
        line("ob", 1);
        line("oc", -2);
        line("oabc", -4);
        line("om", -2);
        line("0-1,1;oc", 2);
        line("0-1,1;od", -8);
        line("oc;0-1,1", -2);
        line("oaa", -3);
        line("oaba", -4);
        line("oa.a", -4);
        line("oa.b.a", -6);
        line("oab;oba", 2);
        line("oab;obb", -7);
        s.is("a, the first, without streets", Due.town(new StreetsStepOn(), "oa"), -2);
        s.is("at 75, more behind", Due.town(new StreetsStepOn(), upTo75("oaba") + ";"), -76);
        s.is("not there at 75, more behind", Due.town(new StreetsStepOn(), upTo75("oal") + ";"), -76);
    }

    private void p4Room() {
        s.of("4", "the first sign of a LINE for which there is no room).");
        StreetsStepOn x = Due.built(TermsBoundaries.streets(11));
        s.is("two more than 11", Due.town(x, "0-1,1;0-1,1"), -7);
        s.is("one more than 11", Due.town(x, "0-1,1"), 1);
        s.is("one more than 12", Due.town(x, "0-1,1"), -1);
        s.is("and wrong in itself", Due.town(x, "0-0,99"), -1);
        s.is("behind an order", Due.town(x, "o;0-1,1"), -3);
        s.is("orders have room", Due.town(x, "o;o;o;o;o;o"), 6);
        s.is("two more than 6", Due.town(x, "o;o"), -3);
        s.is("one more than 6", Due.town(x, "oab"), 1);
        s.is("one more than 7", Due.town(x, "oab"), -1);
        s.is("and wrong in itself", Due.town(x, "oz"), -1);
        s.is("neither a street", Due.town(x, "3-4,1"), -1);
        s.is("an empty text needs no room", x.town(), 0);
        StreetsStepOn streets = Due.built("0-1,1;o;o;o;o;o;o;o");
        s.is("streets have room", Due.town(streets, "0-1,1;oa"), -7);
        s.is("streets have room", Due.town(streets, "0-1,1"), 1);
        String twelve = "0-1,10;" + TermsBoundaries.streets(11);
        s.is("at 75, more behind", Due.town(new StreetsStepOn(), twelve + ";o;0-1,1"), -76);
    }

    private void p4Nothing() {
        s.of("4", "Nothing of it comes, if a LINE can't.");
        for (String text : new String[] {"8-9,1;oab;x", "0-3,1;o;8-9,0", "oac;0-3,1;oad;", "8-9,2;7-7,1"}) {
            StreetsStepOn x = Seen.busy();
            x.end(0);
            String before = Seen.all(x);
            s.is(text + " can't", Due.town(x, text) < 0, true);
            s.is(text + " changed nothing", Seen.all(x).equals(before), true);
            s.is(text + " brought no way", x.far(8, 9), 999);
            s.is(text + " told no street", x.again(0), true);
            Due.town(x, "4-6,7;o");
            s.is("behind " + text + " the next street", x.street(3, 1), 6);
            s.is("behind " + text + " its length", x.street(3, 2), 7);
            s.is("behind " + text + " the next order", x.next(2, 0), 0);
            s.is("behind " + text + " the next order", x.next(2, 3), 3);
        }
        StreetsStepOn stale = Due.built(TermsBoundaries.streets(3));
        Due.town(stale, "oabc;x");
        Due.town(stale, "o");
        for (int street = 0; street < 3; street++) {
            s.is("an order behind one that did not come", stale.next(0, street), street);
        }
        StreetsStepOn y = new StreetsStepOn();
        Due.town(y, TermsBoundaries.streets(12) + ";oa;x");
        s.is("room as before", Due.town(y, TermsBoundaries.streets(12)), 12);
    }

    private void p5() {
        s.of("5", "what 0: its first PLACE, 1: the other one, 2: LENGTH, 3: its NAME TODAY.");
        StreetsStepOn x = Due.built(Seen.TOWN);
        s.is("what 0", x.street(2, 0), 2);
        s.is("what 1", x.street(2, 1), 3);
        s.is("what 2", x.street(2, 2), 4);
        s.is("what 3", x.street(2, 3), 2);
        x.pass(Sentences.LAST);
        s.is("what 3 on the last day", x.street(2, 3), 1);
        s.of("5", "NoSuchElementException: none such, another what.");
        s.leavesAndThrows("street -1", y -> y.street(-1, 0));
        s.leavesAndThrows("street 3", y -> y.street(3, 0));
        s.leavesAndThrows("the greatest street", y -> y.street(Integer.MAX_VALUE, 0));
        s.leavesAndThrows("the least street", y -> y.street(Integer.MIN_VALUE, 3));
        s.leavesAndThrows("what -1", y -> y.street(0, -1));
        s.leavesAndThrows("what 4", y -> y.street(0, 4));
        s.leavesAndThrows("the greatest what", y -> y.street(0, Integer.MAX_VALUE));
    }

    private void p6() {
        s.of("6", "NONE: none such.");
        s.leaves("order 0, street 0", 1, x -> x.next(0, 0));
        s.leaves("order 1, street 2", 1, x -> x.next(1, 2));
        s.refused("order -1", x -> x.next(-1, 0));
        s.refused("order 2", x -> x.next(2, 0));
        s.refused("street -1", x -> x.next(0, -1));
        s.refused("street 3", x -> x.next(0, 3));
        s.refused("the greatest", x -> x.next(Integer.MAX_VALUE, Integer.MAX_VALUE));
        s.is("no orders", Due.built("0-1,1").next(0, 0), -1);
        s.is("no streets", Due.built("o").next(0, 0), -1);
    }

    private void sheet(int kind, int f, int want) {
        StreetsStepOn x = Due.built("0-1,7");
        s.is("kind " + kind + " of " + f, x.sheet(kind, 1, f, 0), want);
        s.is("kind " + kind + " of " + f, x.street(0, 2), want);
    }

    private void p7Numbers() {
        s.of("7", "f, f + step, .. (of bytes, shorts the lowest bits, with their sign; put to 1 .. 20)");
        for (int kind = 0; kind <= 2; kind++) {
            sheet(kind, -1, 1);
            sheet(kind, 0, 1);
            sheet(kind, 1, 1);
            sheet(kind, 2, 2);
            sheet(kind, 19, 19);
            sheet(kind, 20, 20);
            sheet(kind, 21, 20);
            sheet(kind, 127, 20);
        }
        sheet(0, 128, 1);
        sheet(0, 255, 1);
        sheet(0, 256, 1);
        sheet(0, 256 + 19, 19);
        sheet(0, -256 + 5, 5);
        sheet(0, -128, 1);
        sheet(0, -129, 20);
        sheet(1, 128, 20);
        sheet(1, 32767, 20);
        sheet(1, 32768, 1);
        sheet(1, 65535, 1);
        sheet(1, 65536 + 19, 19);
        sheet(1, -65536 + 5, 5);
        sheet(1, -32769, 20);
        sheet(2, 32768, 20);
        sheet(2, 65536, 20);
        sheet(2, Integer.MAX_VALUE, 20);
        sheet(2, Integer.MIN_VALUE, 1);
        StreetsStepOn x = Due.built(TermsBoundaries.streets(3));
        s.is("an int step beyond the greatest", x.sheet(2, 3, Integer.MAX_VALUE, 1), 22);
        s.is("below the least", x.sheet(2, 3, Integer.MIN_VALUE, -1), 41);
        s.is("a byte step", x.sheet(0, 3, 120, 8), 22);
        s.is("down from 20", x.sheet(2, 3, 20, -19), 22);
    }

    private void p7Entries() {
        s.of("7", "LENGTHS of STREETS 0, 1, .., as a sheet tells them: "
                + "bytes (kind 0), shorts (1), ints (2) of n entries");
        StreetsStepOn x = Due.built(TermsBoundaries.streets(12));
        s.is("12 entries", x.sheet(2, 12, 1, 1), 78);
        s.is("the last", x.street(11, 2), 12);
        s.is("12 of 20", x.sheet(0, 12, 20, 0), 240);
        s.is("no streets", new StreetsStepOn().sheet(0, 12, 20, 0), 0);
        s.is("more entries than streets", Due.built("0-1,1;0-1,1").sheet(1, 12, 5, 1), 11);
        s.of("7", "or a missing one (3): those behind it have 1: the sum of all.");
        s.is("11 entries", x.sheet(2, 11, 2, 0), 23);
        s.is("the last of them", x.street(10, 2), 2);
        s.is("behind them", x.street(11, 2), 1);
        s.is("1 entry", x.sheet(2, 1, 9, 0), 20);
        s.is("behind it", x.street(1, 2), 1);
        s.is("far by it", x.far(0, 1), 1);
        s.is("no entry", x.sheet(2, 0, 9, 0), 12);
    }

    private void p7Refused() {
        s.of("7", "-2: n below 0 (of kinds 0 .. 2; nothing changes)");
        for (int kind = 0; kind <= 2; kind++) {
            int told = kind;
            s.leaves("n -1, kind " + kind, -2, x -> x.sheet(told, -1, 9, 9));
            s.leaves("the least n, kind " + kind, -2, x -> x.sheet(told, Integer.MIN_VALUE, 9, 9));
            s.is("n 0, kind " + kind, Seen.busy().sheet(kind, 0, 9, 9), 3);
        }
        s.is("no streets", new StreetsStepOn().sheet(0, -1, 1, 1), -2);
        s.of("7", "-3: missing (all 1).");
        for (int n : new int[] {Integer.MIN_VALUE, -1, 0, 12}) {
            StreetsStepOn x = Seen.busy();
            s.is("n " + n, x.sheet(3, n, 9, 9), -3);
            s.is("all 1", x.street(0, 2) + x.street(1, 2) + x.street(2, 2), 3);
            s.is("far by them", x.far(0, 3), 3);
        }
        s.is("no streets", new StreetsStepOn().sheet(3, 0, 1, 1), -3);
        s.of("7", "NONE: another kind, n above 12 (these first).");
        s.refused("kind -1", x -> x.sheet(-1, 1, 9, 9));
        s.refused("kind 4", x -> x.sheet(4, 1, 9, 9));
        s.refused("kind 4, n -1", x -> x.sheet(4, -1, 9, 9));
        s.refused("kind -1, n -1", x -> x.sheet(-1, -1, 9, 9));
        s.refused("the least kind", x -> x.sheet(Integer.MIN_VALUE, 0, 9, 9));
        s.refused("the greatest kind", x -> x.sheet(Integer.MAX_VALUE, 0, 9, 9));
        for (int kind = 0; kind <= 3; kind++) {
            int told = kind;
            s.refused("n 13, kind " + kind, x -> x.sheet(told, 13, 9, 9));
            s.refused("the greatest n, kind " + kind, x -> x.sheet(told, Integer.MAX_VALUE, 9, 9));
            s.is("n 12, kind " + kind, Seen.busy().sheet(kind, 12, 2, 0), kind == 3 ? -3 : 6);
        }
    }

    private void p8() {
        s.of("8", "NONE: none such.");
        s.leaves("0 and 9", 999, x -> x.far(0, 9));
        s.leaves("9 and 0", 999, x -> x.far(9, 0));
        s.leaves("9 and 9", 0, x -> x.far(9, 9));
        s.refused("-1 and 0", x -> x.far(-1, 0));
        s.refused("0 and -1", x -> x.far(0, -1));
        s.refused("10 and 0", x -> x.far(10, 0));
        s.refused("0 and 10", x -> x.far(0, 10));
        s.refused("10 and 10", x -> x.far(10, 10));
        s.refused("-1 and -1", x -> x.far(-1, -1));
        s.refused("the greatest", x -> x.far(Integer.MAX_VALUE, Integer.MIN_VALUE));
    }

    private void p9() {
        s.of("9", "n DAYS go by (0 and more; to the last DAY at most)");
        StreetsStepOn x = Due.built("0-1,1;o;o;o;o;o;o;o");
        s.is("0", x.pass(0), 0);
        s.is("1", x.pass(1), 1);
        s.is("5", x.pass(5), 6);
        s.is("the week again", x.pass(1), 0);
        s.is("to the last but one", x.pass(Sentences.LAST - 8), 0);
        s.is("to the last", x.pass(1), 1);
        s.is("0 on the last", x.pass(0), 1);
        s.is("today", x.today(), Sentences.LAST);
        s.is("all at once", new StreetsStepOn().pass(Sentences.LAST), 0);
        s.of("9", "TODAY's ORDER of the week for the next midnight (0 without ORDERS).");
        s.is("without orders", Due.built("0-1,1").pass(5), 0);
        s.is("one order", Due.built("0-1,1;o").pass(5), 0);
        s.is("two orders", Due.built("0-1,1;o;o").pass(5), 1);
        s.of("9", "Refused: others, beyond.");
        s.refused("-1", y -> y.pass(-1));
        s.refused("the least", y -> y.pass(Long.MIN_VALUE));
        s.refused("one beyond", y -> y.pass(Sentences.LAST - 3));
        s.refused("the greatest", y -> y.pass(Long.MAX_VALUE));
        s.is("the last, from day 4", Seen.busy().pass(Sentences.LAST - 4), 0);
        s.is("beyond the last", x.pass(1), -1);
        s.is("today", x.today(), Sentences.LAST);
    }
}
