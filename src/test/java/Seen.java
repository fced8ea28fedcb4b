/** All that can be seen of an object without changing it, as one text. */
final class Seen {
    /** What busy() has typed last, and what town() answers to it: it ends too early. */
    static final String TEXT = "oab;";
    static final int TEXT_ANSWER = -5;
    /** NAMES of a, b, c on DAYS 0 .. 5, then again: 012, 102, 120, 210, 201, 021. */
    static final String TOWN = "0-1,5;1-2,3;2-3,4;oab;obc";

    interface Call {
        long of(StreetsStepOn x);
    }

    /** A town on DAY 4 with something of everything, and another state kept under 0. */
    static StreetsStepOn busy() {
        StreetsStepOn x = Due.built(TOWN);
        x.letter(2, 5);
        x.keep(0);
        moveOn(x);
        x.letter(0, 2);
        x.sheet(2, 3, 6, 1);
        x.pass(4);
        return x;
    }

    static String keptByBusy() {
        StreetsStepOn x = Due.built(TOWN);
        x.letter(2, 5);
        moveOn(x);
        return all(x);
    }

    /** What is not kept: WISHES, THE RULE, the ROW, THE TEXT. */
    private static void moveOn(StreetsStepOn x) {
        x.wish(3, 0, 0);
        x.wish(1, 2, 6);
        Due.rule(x, "k+7");
        x.same(1, 2);
        Due.type(x, TEXT);
    }

    static String all(StreetsStepOn x) {
        StringBuilder seen = new StringBuilder();
        for (int what = 0; what <= 5; what++) {
            seen.append(x.count(what)).append(' ');
        }
        seen.append("today ").append(x.today()).append(" row");
        for (int i = 0; i < x.count(4); i++) {
            seen.append(' ').append(x.row(i));
        }
        for (int street = 0; street < x.count(0); street++) {
            seen.append(" street");
            for (int what = 0; what <= 3; what++) {
                seen.append(' ').append(x.street(street, what));
            }
            for (int order = 0; order < x.count(1); order++) {
                seen.append(" by ").append(order).append(' ').append(x.next(order, street));
            }
            seen.append(" then ").append(x.name(street, x.today() + 1));
        }
        for (int letter = 0; letter < x.count(2); letter++) {
            seen.append(" letter ").append(x.misread(letter, 0)).append(' ').append(x.answer(letter, 0));
            seen.append(' ').append(x.late(letter, 3, 0));
        }
        return seen.append(" kept ").append(x.kept()).append(" far ").append(x.far(0, 3)).toString();
    }
}
