import java.io.IOException;
import java.nio.file.Files;
import java.nio.file.Path;
import java.util.ArrayList;
import java.util.List;
import java.util.Map;
import java.util.TreeMap;
import java.util.regex.Matcher;
import java.util.regex.Pattern;

/**
 * Checks under the document's own sentences: each group of checks quotes what it is for, the quote
 * must stand in that promise (or in those Terms), and no sentence that names a boundary may be left
 * without a group.
 */
final class Sentences {
    static final long LAST = 1000000000000L;
    static final String WHOLE = "What it is";
    private static final int PROMISES = 52;
    /** Words by which the document tells of a boundary. */
    private static final Pattern BOUNDARY = Pattern.compile("NONE|NoSuchElementException|[Rr]efused|false|-2|-3|-1 - p|"
            + "at most|at least|more than|fewer than|too small|too great|too early|above|below|beyond|"
            + "\\.\\.|[Ww]ithout|no room|empty|never|\\bnone\\b|missing|[Nn]othing|others|"
            + "no way|of equal|can't|less 1|unlike|512");

    private final Due due = new Due();
    private final Map<String, String> sections = new TreeMap<>();
    private final Map<String, List<String>> quotes = new TreeMap<>();
    private String section = "";
    private String quote = "";
    private int checksAhead;

    Sentences(Path document) throws IOException {
        String text = Files.readString(document).replace("\r", "");
        int terms = text.indexOf("\n1. PLACES");
        int moreTerms = text.indexOf("\n2. LETTERS");
        sections.put(WHOLE, text.substring(text.indexOf("## What it is"), text.indexOf("## The public face")));
        sections.put("Terms 1", text.substring(terms, moreTerms));
        sections.put("Terms 2", text.substring(moreTerms, text.indexOf("\nAhead of the calls", moreTerms)));
        Matcher promise = Pattern.compile("## Promise (\\d+): [^\n]*\n\n`[^`]*`: ([^\n]*)\n").matcher(text);
        while (promise.find()) {
            sections.put(promise.group(1), promise.group(2));
        }
    }

    /** What follows is for this sentence of a promise ("1" .. "52"), or of "Terms 1", "Terms 2". */
    void of(String where, String words) {
        endGroup();
        section = where;
        quote = words;
        checksAhead = due.checks();
        quotes.computeIfAbsent(where, key -> new ArrayList<>()).add(words);
        if (!sections.getOrDefault(where, "").contains(words)) {
            due.fault(label("") + " does not stand there");
        }
    }

    void is(String what, long got, long want) {
        due.is(label(what), got, want);
    }

    void is(String what, boolean got, boolean want) {
        due.is(label(what), got, want);
    }

    void row(String what, StreetsStepOn x, long... want) {
        due.row(label(what), x, want);
    }

    void throwsNone(String what, Runnable call) {
        due.throwsNone(label(what), call);
    }

    /** The call answers NONE, and all that can be seen is as it was. */
    void refused(String what, Seen.Call call) {
        leaves(what, StreetsStepOn.NONE, call);
    }

    /** The call answers so, and all that can be seen is as it was. */
    void leaves(String what, long want, Seen.Call call) {
        StreetsStepOn x = Seen.busy();
        String before = Seen.all(x);
        is(what, call.of(x), want);
        changedNothing(what, x, before);
    }

    void leavesAndThrows(String what, Seen.Call call) {
        StreetsStepOn x = Seen.busy();
        String before = Seen.all(x);
        throwsNone(what, () -> call.of(x));
        changedNothing(what, x, before);
    }

    private void changedNothing(String what, StreetsStepOn x, String before) {
        String after = Seen.all(x);
        if (!after.equals(before)) {
            due.fault(label(what) + " changed\n  " + before + "\n  " + after);
        }
        is(what + ": what is kept", x.again(0), true);
        String kept = Seen.all(x);
        if (!kept.equals(Seen.keptByBusy())) {
            due.fault(label(what) + " changed what is kept\n  " + kept);
        }
        is(what + ": the text is still " + Seen.TEXT, x.town(), Seen.TEXT_ANSWER);
    }

    private String label(String what) {
        return section + " <<" + quote + ">> " + what;
    }

    private void endGroup() {
        if (!quote.isEmpty() && due.checks() == checksAhead) {
            due.fault(label("") + " has no checks");
        }
    }

    void finish() {
        endGroup();
        for (int i = 1; i <= PROMISES; i++) {
            if (!sections.containsKey(String.valueOf(i))) {
                due.fault("promise " + i + " was not found in the document");
            }
        }
        for (Map.Entry<String, String> entry : sections.entrySet()) {
            lookForMissing(entry.getKey(), entry.getValue());
        }
        due.finish();
    }

    private void lookForMissing(String where, String text) {
        List<String> there = quotes.getOrDefault(where, List.of());
        if (there.isEmpty()) {
            due.fault(where + " has no tests");
        }
        Matcher word = BOUNDARY.matcher(text);
        while (word.find()) {
            boolean quoted = false;
            for (String words : there) {
                int at = text.indexOf(words);
                while (at >= 0 && !quoted) {
                    quoted = at <= word.start() && word.end() <= at + words.length();
                    at = text.indexOf(words, at + 1);
                }
            }
            if (!quoted) {
                int from = Math.max(0, word.start() - 30);
                int to = Math.min(text.length(), word.end() + 30);
                due.fault(where + " has no test for .." + text.substring(from, to) + "..");
            }
        }
    }
}
