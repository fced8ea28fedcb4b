import java.util.NoSuchElementException;

/** Counts answers that are not as due, and types texts. */
final class Due {
    private int checks;
    private int wrong;

    void is(String what, long got, long want) {
        checks++;
        if (got != want) {
            wrong++;
            System.out.println(what + " answered " + got + ", due is " + want);
        }
    }

    int checks() {
        return checks;
    }

    void fault(String what) {
        wrong++;
        System.out.println(what);
    }

    void is(String what, boolean got, boolean want) {
        is(what, got ? 1 : 0, want ? 1 : 0);
    }

    /** The whole ROW. */
    void row(String what, StreetsStepOn x, long... want) {
        is(what + ": numbers of the row", x.count(4), want.length);
        for (int i = 0; i < want.length && i < x.count(4); i++) {
            is(what + ": row " + i, x.row(i), want[i]);
        }
        throwsNone(what + ": row " + want.length, () -> x.row(want.length));
        throwsNone(what + ": row -1", () -> x.row(-1));
    }

    void throwsNone(String what, Runnable call) {
        checks++;
        try {
            call.run();
            wrong++;
            System.out.println(what + " did not throw");
        } catch (NoSuchElementException e) {
            if (e.getClass() != NoSuchElementException.class) {
                wrong++;
                System.out.println(what + " threw " + e);
            }
        }
    }

    static void type(StreetsStepOn x, String text) {
        x.end(0);
        for (int i = 0; i < text.length(); i += 4) {
            int v = 0;
            for (int j = i; j < i + 4; j++) {
                v = v << 8 | (j < text.length() ? text.charAt(j) & 255 : 0);
            }
            x.sign(v);
        }
        x.end(text.length());
    }

    static int town(StreetsStepOn x, String text) {
        type(x, text);
        return x.town();
    }

    static int rule(StreetsStepOn x, String text) {
        type(x, text);
        return x.rule();
    }

    static StreetsStepOn built(String text) {
        StreetsStepOn x = new StreetsStepOn();
        if (town(x, text) < 0) {
            throw new IllegalStateException("a test's town can't be read: " + text);
        }
        return x;
    }

    void finish() {
        System.out.println(checks + " checks, " + wrong + " not as due");
        if (wrong != 0) {
            System.exit(1);
        }
    }
}
