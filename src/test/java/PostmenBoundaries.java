/** Boundaries that promises 30 to 40 name. Answers are reckoned by hand. */
final class PostmenBoundaries {
    private static final long LAST = Sentences.LAST;
    /**
     * Only the first midnight of a week changes NAMES: NAME 0 is l's on DAYS 1 .. 7, k's on
     * 8 .. 14, .., b's on 71 .. 77.
     */
    private static final String SLOW = "oabcdefghijkl;o;o;o;o;o;o";
    private final Sentences s;

    private PostmenBoundaries(Sentences sentences) {
        s = sentences;
    }

    static void all(Sentences sentences) {
        PostmenBoundaries t = new PostmenBoundaries(sentences);
        t.p30();
        t.p31();
        t.p32();
        t.p33();
        t.p34();
        t.p34Row();
        t.p35();
        t.p35Days();
        t.p35Refused();
        t.p36();
        t.p36Long();
        t.p37();
        t.p38();
        t.p39();
        t.p40();
    }

    /** TODAY is told; LETTER 0 has NAME 0 of DAY 2: its HOME is c. NAME 0 is borne by 0 1 2 2 1 0, then again. */
    private static StreetsStepOn onDay(long day) {
        StreetsStepOn x = Due.built(Seen.TOWN);
        x.letter(0, 2);
        x.pass(day);
        return x;
    }

    private void p30() {
        s.of("30", "A postman who knows NAMES of late DAYS ago (0 .. 99; below DAY 0: of DAY 0)");
        s.is("0 late on day 98", onDay(98).carries(0, 0), 2);
        s.is("97 late on day 98: of day 1", onDay(98).carries(0, 97), 1);
        s.is("98 late on day 98: of day 0", onDay(98).carries(0, 98), 0);
        s.is("99 late on day 98: of day 0", onDay(98).carries(0, 99), 0);
        s.is("99 late on day 99: of day 0", onDay(99).carries(0, 99), 0);
        s.is("99 late on day 100: of day 1", onDay(100).carries(0, 99), 1);
        s.is("99 late on day 101: of day 2", onDay(101).carries(0, 99), 2);
        s.is("99 late on the last day", onDay(LAST).carries(0, 99), 1);
        s.is("0 late on the last day", onDay(LAST).carries(0, 0), 1);
        s.of("30", "the ROW: 1 if it is its HOME (0), FAR from its HOUSE to HOME's.");
        StreetsStepOn home = onDay(2);
        home.carries(0, 0);
        s.row("at home", home, 1, 0);
        StreetsStepOn off = onDay(0);
        off.carries(0, 0);
        s.row("at a", off, 0, 8);
        StreetsStepOn apart = Due.built("0-1,5;2-3,5;oab");
        apart.letter(0, 1);
        apart.carries(0, 0);
        s.row("no way", apart, 0, 999);
        s.of("30", "NONE: others.");
        s.refused("late -1", x -> x.carries(0, -1));
        s.refused("late 100", x -> x.carries(0, 100));
        s.refused("the least late", x -> x.carries(0, Integer.MIN_VALUE));
        s.refused("letter -1", x -> x.carries(-1, 0));
        s.refused("letter 2", x -> x.carries(2, 0));
        s.is("letter 1", Seen.busy().carries(1, 0), 1);
    }

    /** NAMES come round to a STREET in 84 DAYS at most, so no least late can be above 83. */
    private void p31() {
        s.of("31", "The least late (0 .. 99) with which he brings it HOME TODAY. -2: none; NONE: none such.");
        s.is("0 late", onDay(2).best(0), 0);
        s.is("0 late, though 1 would do", onDay(3).best(0), 0);
        s.is("1 late", onDay(4).best(0), 1);
        s.is("none on day 0", onDay(0).best(0), -2);
        s.is("none on day 1", onDay(1).best(0), -2);
        StreetsStepOn slow = NamesBoundaries.twelve(SLOW);
        slow.letter(0, 71);
        slow.letter(0, 0);
        slow.pass(70);
        s.is("none till day 70", slow.best(0), -2);
        s.is("70 late, of day 0", slow.best(1), 70);
        slow.pass(1);
        s.is("on day 71", slow.best(0), 0);
        slow.pass(6);
        s.is("77 late, of day 0", slow.best(1), 77);
        slow.pass(1);
        s.is("home on day 78", slow.best(1), 0);
        slow.pass(83);
        s.is("77 late, of day 84", slow.best(1), 77);
        s.refused("-1", x -> x.best(-1));
        s.refused("2", x -> x.best(2));
        s.refused("the greatest", x -> x.best(Integer.MAX_VALUE));
        s.leaves("1", 1, x -> x.best(1));
    }

    private void p32() {
        s.of("32", "On how many of the DAYS TODAY .. TODAY and n less 1 (1 .. 1000) he would bring it HOME; "
                + "the ROW: the first of them (NONE).");
        StreetsStepOn x = onDay(0);
        s.is("1 day", x.days(0, 0, 1), 0);
        s.row("1 day", x, -1);
        s.is("2 days", x.days(0, 0, 2), 0);
        s.row("2 days", x, -1);
        s.is("3 days", x.days(0, 0, 3), 1);
        s.row("3 days", x, 2);
        s.is("1000 days", x.days(0, 0, 1000), 334);
        s.row("1000 days", x, 2);
        s.is("999 days", x.days(0, 0, 999), 333);
        s.is("99 late, 101 days", x.days(0, 99, 101), 0);
        s.row("99 late, 101 days", x, -1);
        s.is("99 late, 102 days", x.days(0, 99, 102), 1);
        s.row("99 late, 102 days", x, 101);
        StreetsStepOn late = onDay(LAST);
        s.is("from the last day on", late.days(0, 0, 5), 1);
        s.row("from the last day on", late, LAST + 4);
        s.is("the last day alone, 1 late", late.days(0, 1, 1), 1);
        s.row("the last day alone, 1 late", late, LAST);
        s.of("32", "NONE: others.");
        s.refused("n 0", y -> y.days(0, 0, 0));
        s.refused("n 1001", y -> y.days(0, 0, 1001));
        s.refused("n -1", y -> y.days(0, 0, -1));
        s.refused("the greatest n", y -> y.days(0, 0, Integer.MAX_VALUE));
        s.refused("late -1", y -> y.days(0, -1, 1));
        s.refused("late 100", y -> y.days(0, 100, 1));
        s.refused("letter -1", y -> y.days(-1, 0, 1));
        s.refused("letter 2", y -> y.days(2, 0, 1));
        s.is("letter 1, 99 late, 1000 days", Seen.busy().days(1, 99, 1000), 302);
    }

    /** LETTERS of DAY 0 whose NAMES come home every 3, 4 and 5 weeks: all three on DAYS 414 .. 420. */
    private static StreetsStepOn threeCycles(long day) {
        StreetsStepOn x = NamesBoundaries.twelve("oabc.defg.hijkl;o;o;o;o;o;o");
        x.letter(0, 0);
        x.letter(3, 0);
        x.letter(7, 0);
        x.pass(day);
        return x;
    }

    private void postman(String what, StreetsStepOn x, int n, int late, long most, long punctual) {
        s.is(what, x.postman(n), late);
        s.row(what, x, most, punctual);
    }

    private static StreetsStepOn homeA(long day) {
        StreetsStepOn x = Due.built(Seen.TOWN);
        x.letter(0, 0);
        x.pass(day);
        return x;
    }

    private void p33() {
        s.of("33", "How late (0 .. 99) a postman should be");
        postman("99 late knows day 420", threeCycles(519), 1, 99, 3, 2);
        postman("99 late knows day 421 alone", threeCycles(520), 1, 0, 2, 2);
        postman("98 late knows day 420", threeCycles(518), 1, 98, 3, 0);
        postman("on day 0", threeCycles(0), 1, 0, 3, 3);
        postman("all 30 are of day 0", homeA(70), 30, 99, 30, 10);
        postman("one of 30 is of day 1", homeA(71), 30, 99, 29, 10);
        s.of("33", "on each of the DAYS TODAY .. TODAY and n less 1 (1 .. 30) on which he would");
        postman("1 day", homeA(0), 1, 0, 1, 1);
        postman("2 days", homeA(0), 2, 1, 2, 1);
        postman("29 days", homeA(0), 29, 28, 29, 9);
        postman("30 days", homeA(0), 30, 29, 30, 10);
        s.of("33", "of equal ones the least: it");
        postman("0 or 6 late", homeA(LAST - 4), 1, 0, 1, 1);
        postman("none of all", noneHome(), 1, 0, 0, 0);
        StreetsStepOn twice = homeA(0);
        postman("once", twice, 30, 29, 30, 10);
        postman("and once more", twice, 30, 29, 30, 10);
        s.of("33", "NONE: another n, no LETTERS.");
        s.refused("n 0", x -> x.postman(0));
        s.refused("n 31", x -> x.postman(31));
        s.refused("n -1", x -> x.postman(-1));
        s.refused("the greatest n", x -> x.postman(Integer.MAX_VALUE));
        s.is("no letters", Due.built(Seen.TOWN).postman(1), -1);
        s.is("no streets", new StreetsStepOn().postman(30), -1);
    }

    private static StreetsStepOn noneHome() {
        StreetsStepOn x = Due.built(Seen.TOWN);
        x.letter(0, 2);
        return x;
    }

    private void travels(String what, StreetsStepOn x, int late, int days, long houses, long sum) {
        s.is(what, x.travels(0, late), days);
        s.row(what, x, houses, sum);
    }

    private void p34() {
        s.of("34", "(late and 1, late and 2, .., 99 at most) than the one ahead, as that DAY is");
        travels("0 late: of day 0 for 99 days, then 1, 2", onDay(0), 0, 101, 3, 8);
        travels("98 late", onDay(0), 98, 101, 3, 8);
        travels("99 late", onDay(0), 99, 101, 3, 8);
        travels("98, 99, 99 late: of days 1, 1, 2", onDay(99), 98, 2, 2, 3);
        travels("99, 99 late: of days 1, 2", onDay(100), 99, 1, 2, 3);
        travels("1, 2, .. late: of day 4 till 99, then 5, 6, 7, 8", onDay(5), 1, 102, 3, 13);
        s.of("34", "how many DAYS till it is HOME (0: at once).");
        travels("0 late", onDay(2), 0, 0, 1, 0);
        travels("98 late", onDay(100), 98, 0, 1, 0);
        travels("99 late", onDay(101), 99, 0, 1, 0);
        travels("on the last day, 1 late", onDay(LAST), 1, 0, 1, 0);
        s.of("34", "-2: not within 1000 DAYS;");
        StreetsStepOn slow = NamesBoundaries.twelve(SLOW);
        slow.letter(0, 71);
        s.is("later than 170 DAYS it can't be, as names come round in 84", slow.travels(0, 0), 170);
    }

    private void p34Row() {
        s.of("34", "the ROW: how many HOUSES it came to in all (unlike ones), the sum of FAR between them, "
                + "one after the other (NONE, if some had no way).");
        StreetsStepOn x = Due.built(Seen.TOWN);
        x.letter(1, 4);
        x.pass(200);
        travels("b b a a b c", x, 98, 5, 3, 13);
        StreetsStepOn apart = Due.built("0-1,5;2-3,5;oab");
        apart.letter(0, 1);
        travels("no way", apart, 99, 100, 2, -1);
        StreetsStepOn alone = Due.built("0-1,5;2-3,5;oab");
        alone.letter(0, 0);
        travels("no way is needed", alone, 99, 0, 1, 0);
        StreetsStepOn joined = Due.built("0-1,5;2-3,5;oab");
        joined.letter(0, 1);
        Due.town(joined, "1-2,20");
        travels("there is a way", joined, 99, 100, 2, 25);
        StreetsStepOn slow = NamesBoundaries.twelve(SLOW);
        slow.letter(0, 71);
        travels("12 houses at one place", slow, 0, 170, 12, 0);
        s.of("34", "NONE: others.");
        s.refused("late -1", y -> y.travels(0, -1));
        s.refused("late 100", y -> y.travels(0, 100));
        s.refused("letter -1", y -> y.travels(-1, 0));
        s.refused("letter 2", y -> y.travels(2, 0));
        s.is("letter 1, 99 late", Seen.busy().travels(1, 99), 97);
    }

    private void round(String what, StreetsStepOn x, int place, int minutes, int want) {
        s.is(what, x.round(place, 1, minutes), want);
    }

    private void p35() {
        s.of("35", "a DAY has long minutes (1 .. 999), "
                + "and has to come to the HOUSE of whatever STREET bears a NAME as he comes");
        round("1 minute: b's house on day 7", onDay(0), 3, 1, 7);
        round("999 minutes", onDay(0), 3, 999, 12);
        round("12 minutes: the day is over as he comes", onDay(0), 3, 12, 12);
        round("13 minutes: the last minute of the day", onDay(0), 3, 13, 12);
        round("11 minutes: b's house on day 1", onDay(0), 3, 11, 11);
        round("on the last day", onDay(LAST), 1, 5, 0);
        s.of("35", "for all LETTERS told as bits (1 .. ; at most 6 of them; "
                + "one may wait anywhere; a minute for each 1 of FAR)");
        StreetsStepOn six = Due.built("0-1,5;0-2,5");
        for (int i = 0; i < 12; i++) {
            six.letter(0, 0);
        }
        s.is("one", six.round(1, 1, 9), 5);
        s.is("the last one", six.round(1, 1 << 11, 9), 5);
        s.row("the last one", six, 11);
        s.is("6", six.round(1, 63 << 6, 9), 5);
        s.row("6", six, 6, 7, 8, 9, 10, 11);
        s.is("7", six.round(1, 127, 9), -1);
        s.is("12", six.round(1, 4095, 9), -1);
        round("one waits for day 1", onDay(0), 1, 4, 4);
        s.of("35", "of equal ones the least row.");
        StreetsStepOn line = Due.built("1-0,5;2-0,5;3-0,5");
        line.letter(2, 0);
        line.letter(1, 0);
        line.letter(0, 0);
        s.is("in any order", line.round(0, 7, 999), 25);
        s.row("in any order", line, 0, 1, 2);
    }

    private static StreetsStepOn star(String town) {
        StreetsStepOn x = Due.built(town);
        for (int i = 0; i < x.count(0); i++) {
            x.letter(i, 0);
        }
        return x;
    }

    private void p35Days() {
        s.of("35", "(in any order, each as soon as it can be behind the one ahead; DAYS up to 99 from TODAY on)");
        StreetsStepOn near = star("0-1,20;1-2,20;2-3,20;3-4,20;4-5,19");
        round("99 minutes of 1 a day", near, 5, 1, 99);
        near.pass(LAST);
        round("and from the last day on", near, 5, 1, 99);
        StreetsStepOn far = star("0-1,20;1-2,20;2-3,20;3-4,20;4-5,20");
        round("100 minutes of 1 a day", far, 5, 1, -2);
        round("100 minutes of 2 a day", far, 5, 2, 100);
        StreetsStepOn six = star("1-0,19;2-0,19;3-0,19;4-0,19;5-0,19;6-0,14");
        s.is("199 minutes of 2 a day", six.round(0, 63, 2), 199);
        s.row("199 minutes of 2 a day", six, 0, 1, 2, 3, 5, 4);
        StreetsStepOn more = star("1-0,20;2-0,20;3-0,20;4-0,20;5-0,20;6-0,10");
        s.is("200 minutes of 2 a day", more.round(0, 63, 2), -2);
        s.is("200 minutes of 3 a day", more.round(0, 63, 3), 200);
        s.row("200 minutes of 3 a day", more, 0, 1, 2, 3, 5, 4);
        s.of("35", "-2: it can't be;");
        StreetsStepOn x = onDay(0);
        x.same(0, 0);
        round("no way", x, 9, 999, -2);
        s.row("no way: the row as it was", x, 7);
        round("a way", x, 3, 999, 12);
        round("no way behind a way", x, 9, 999, -2);
        s.row("no way behind a way: the row as it was", x, 0);
        StreetsStepOn slow = Due.built("9-8,1;1-2,1;9-8,1;9-8,1;9-8,1;9-8,1;9-8,1;9-8,1;9-8,1;9-8,1");
        Due.town(slow, "9-8,1;9-8,1;" + SLOW);
        slow.letter(0, 0);
        round("one waits for day 71", slow, 1, 999, 71 * 999);
        slow.pass(78);
        round("one waits for 77 days", slow, 1, 999, 77 * 999);
    }

    private void p35Refused() {
        s.of("35", "NONE: others.");
        s.refused("minutes 0", x -> x.round(0, 1, 0));
        s.refused("minutes 1000", x -> x.round(0, 1, 1000));
        s.refused("minutes -1", x -> x.round(0, 1, -1));
        s.refused("place -1", x -> x.round(-1, 1, 1));
        s.refused("place 10", x -> x.round(10, 1, 1));
        s.refused("no letters", x -> x.round(0, 0, 1));
        s.refused("a letter that is not there", x -> x.round(0, 4, 1));
        s.refused("one that is there, one that is not", x -> x.round(0, 5, 1));
        s.refused("all bits", x -> x.round(0, -1, 1));
        s.refused("the highest bit", x -> x.round(0, Integer.MIN_VALUE, 1));
        s.is("all letters there are", Seen.busy().round(1, 3, 999), 6);
        s.is("place 9", Seen.busy().round(9, 3, 999), -2);
        s.is("without letters", Due.built("0-1,1").round(0, 1, 1), -1);
    }

    private void p36() {
        s.of("36", "THE TEXT is THE RULE (an empty one: none): 0.");
        StreetsStepOn x = onDay(0);
        s.is("read", Due.rule(x, "9"), 0);
        s.is("9", x.late(0, 0, 0), 9);
        s.is("empty", x.rule(), 0);
        s.is("none", x.late(0, 0, 0), 0);
        s.of("36", "-1 - p: the sign at p can't stand there (its end, if it ends too early;");
        String text = "-(a+123)*(k<9)>o%7";
        for (int n = 0; n <= text.length(); n++) {
            String first = text.substring(0, n);
            boolean whole = n == 0 || n == 8 || n == 14 || n == 16 || n == 18;
            s.is("'" + first + "'", Due.rule(new StreetsStepOn(), first), whole ? 0 : -1 - n);
            for (char bad : new char[] {'x', 'A', ' ', 0, ',', 127, 128 + 'a', '\n', '.', ';'}) {
                s.is("'" + first + "' and " + (int) bad, Due.rule(new StreetsStepOn(), first + bad), -1 - n);
            }
        }
        StreetsStepOn kept = onDay(0);
        Due.rule(kept, "9");
        s.is("a rule that can't be", Due.rule(kept, "5+"), -3);
        s.is("the one ahead stays", kept.late(0, 0, 0), 9);
        s.is("the text is empty", kept.count(5), 0);
    }

    private void p36Long() {
        s.of("36", "40, if it has more and the first 40 could go on or end).");
        String of38 = "1+".repeat(19);
        for (String last : new String[] {"11", "-a", "a*", "a<", "(a", "((", "--", "a-"}) {
            boolean whole = last.equals("11") || last.equals("-a");
            s.is("40 to " + last, Due.rule(new StreetsStepOn(), of38 + last), whole ? 0 : -41);
            s.is("41 to " + last, Due.rule(new StreetsStepOn(), of38 + last + "a"), -41);
            s.is("41 to " + last + "x", Due.rule(new StreetsStepOn(), of38 + last + "x"), -41);
            s.is("80 to " + last, Due.rule(new StreetsStepOn(), of38 + last + "+".repeat(40)), -41);
        }
        s.is("39 and x, more behind", Due.rule(new StreetsStepOn(), of38 + "ax+"), -40);
        s.is("39 and x", Due.rule(new StreetsStepOn(), of38 + "ax"), -40);
        s.is("a fourth digit at 39", Due.rule(new StreetsStepOn(), "1+".repeat(18) + "1234+"), -40);
        s.is("a fourth digit at 40", Due.rule(new StreetsStepOn(), "1+".repeat(18) + "-1234"), -41);
        s.is("x at 0 of 80", Due.rule(new StreetsStepOn(), "x".repeat(80)), -1);
        StreetsStepOn x = onDay(0);
        Due.rule(x, "9");
        Due.rule(x, of38 + "11+1");
        s.is("the one ahead stays", x.late(0, 0, 0), 9);
    }

    private void p37() {
        s.of("37", "NoSuchElementException: none such, k below 0, no such STREET.");
        s.leavesAndThrows("letter -1", x -> x.late(-1, 0, 0));
        s.leavesAndThrows("letter 2", x -> x.late(2, 0, 0));
        s.leavesAndThrows("k -1", x -> x.late(0, -1, 0));
        s.leavesAndThrows("the least k", x -> x.late(0, Integer.MIN_VALUE, 0));
        s.leavesAndThrows("street -1", x -> x.late(0, 0, -1));
        s.leavesAndThrows("street 3", x -> x.late(0, 0, 3));
        s.leaves("k 0", 7, x -> x.late(0, 0, 0));
        s.leaves("letter 1, street 2", 8, x -> x.late(1, 1, 2));
        s.leaves("k 93", 99, x -> x.late(1, 93, 2));
        s.leaves("the greatest k, and 7 is below 0", 0, x -> x.late(0, Integer.MAX_VALUE, 0));
        s.throwsNone("no letters", () -> Due.built("0-1,1").late(0, 0, 0));
    }

    /** NAME 0 is a's on even DAYS, b's on odd ones; LETTER 0 is b's. */
    private static StreetsStepOn byRule(String rule) {
        StreetsStepOn x = Due.built("0-1,5;1-2,3;oab");
        x.letter(0, 1);
        Due.rule(x, rule);
        return x;
    }

    private void sends(String what, StreetsStepOn x, int days, long houses, long sum) {
        s.is(what, x.sends(0), days);
        s.row(what, x, houses, sum);
    }

    private void p38() {
        s.of("38", "till it is HOME: how many DAYS (0: at once);");
        StreetsStepOn odd = byRule("0");
        odd.pass(1);
        sends("at once", odd, 0, 1, 0);
        sends("on the next day", byRule("0"), 1, 2, 5);
        s.of("38", "-2: not within 1000 DAYS;");
        sends("999 days", byRule("k%2+(k=999)"), 999, 2, 5);
        sends("1000 days", byRule("k%2+(k=999+1)"), 1000, 2, 5);
        sends("1001 days", byRule("k%2+(k=999+2)"), -2, 1, 0);
        sends("never", byRule("k%2"), -2, 1, 0);
        StreetsStepOn still = Due.built("0-1,5;1-2,3");
        still.letter(1, 9);
        sends("names stay", still, 0, 1, 0);
        s.of("38", "NONE: none such.");
        s.refused("-1", x -> x.sends(-1));
        s.refused("2", x -> x.sends(2));
        s.refused("the greatest", x -> x.sends(Integer.MAX_VALUE));
        s.is("letter 1, of day 0 till day 99, then 1, 2", Seen.busy().sends(1), 97);
    }

    private void p39() {
        s.of("39", "STREETS told as bits (1 .. ; at most 7), in any order");
        StreetsStepOn x = Due.built(TermsBoundaries.streets(12));
        s.is("one", x.walk(1, 1), 1);
        s.is("the last", x.walk(1, 1 << 11), 1);
        s.row("the last", x, 11);
        s.is("7", x.walk(1, 127 << 5), 1);
        s.row("7", x, 5, 6, 7, 8, 9, 10, 11);
        s.is("8", x.walk(1, 255), -1);
        s.is("12", x.walk(1, 4095), -1);
        StreetsStepOn star = Due.built("1-0,20;2-0,20;3-0,20;4-0,20;5-0,20;6-0,20;7-0,20");
        s.is("7 far ones", star.walk(0, 127), 260);
        s.of("39", "of equal ones the least row.");
        s.row("7 far ones", star, 0, 1, 2, 3, 4, 5, 6);
        StreetsStepOn line = Due.built("4-5,1;7-5,2;3-4,1");
        s.is("to both sides", line.walk(5, 7), 6);
        s.row("to both sides", line, 0, 2, 1);
        s.of("39", "-2: it can't; NONE: others.");
        s.leaves("no way", -2, y -> y.walk(9, 1));
        StreetsStepOn apart = Due.built("0-1,5;2-3,5");
        s.is("a way to that one", apart.walk(0, 1), 0);
        s.is("a way to one alone", apart.walk(0, 3), -2);
        s.row("a way to one alone: the row as it was", apart, 0);
        s.refused("no streets", y -> y.walk(0, 0));
        s.refused("a street that is not there", y -> y.walk(0, 8));
        s.refused("one that is there, one that is not", y -> y.walk(0, 9));
        s.refused("all bits", y -> y.walk(0, -1));
        s.refused("the highest bit", y -> y.walk(0, Integer.MIN_VALUE));
        s.refused("place -1", y -> y.walk(-1, 1));
        s.refused("place 10", y -> y.walk(10, 1));
        s.is("place 9", Due.built("9-8,1").walk(9, 1), 0);
        s.is("without streets", new StreetsStepOn().walk(0, 1), -1);
    }

    private void p40() {
        s.of("40", "HOUSES of HOMES of LETTERS told as bits (1 .. ) is the least; of equal ones the first: it");
        StreetsStepOn all = star(TermsBoundaries.streets(12));
        s.is("all 12", all.meet(4095), 0);
        s.row("all 12", all, 0, 0);
        s.is("the last", all.meet(1 << 11), 0);
        s.row("the last", all, 0, 0);
        StreetsStepOn three = star("0-1,5;1-2,3;2-3,4");
        s.is("the first two", three.meet(3), 0);
        s.row("the first two: the third does not count", three, 5, 5);
        s.is("the first and the third", three.meet(5), 0);
        s.row("the first and the third", three, 8, 8);
        s.is("all three", three.meet(7), 1);
        s.row("all three", three, 8, 5);
        StreetsStepOn two = star("9-8,4;8-9,4");
        s.is("8 or 9", two.meet(3), 8);
        s.row("8 or 9", two, 4, 4);
        s.is("9 alone", two.meet(1), 9);
        s.row("9 alone", two, 0, 0);
        s.of("40", "-2: from none there is a way to all; NONE: others.");
        StreetsStepOn apart = star("0-1,5;2-3,5");
        apart.same(0, 0);
        s.is("apart", apart.meet(3), -2);
        s.row("apart: the row as it was", apart, 3);
        s.is("one of them", apart.meet(2), 2);
        s.refused("no letters", x -> x.meet(0));
        s.refused("a letter that is not there", x -> x.meet(4));
        s.refused("one that is there, one that is not", x -> x.meet(5));
        s.refused("all bits", x -> x.meet(-1));
        s.refused("the highest bit", x -> x.meet(Integer.MIN_VALUE));
        s.is("all there are", Seen.busy().meet(3), 1);
        s.is("without letters", Due.built("0-1,1").meet(1), -1);
    }
}
