import java.io.IOException;
import java.nio.file.Files;
import java.nio.file.Path;
import java.util.ArrayList;
import java.util.HashMap;
import java.util.List;
import java.util.Map;
import java.util.function.Supplier;
import java.util.function.ToLongFunction;
import java.util.regex.Matcher;
import java.util.regex.Pattern;

/** Tests by sentences: each stands under the document's own words, which must be found there. */
final class Edges {
    static final String THREE = "r0 1 5;r1 1 5;r7 1 5;";
    static final int MIN = Integer.MIN_VALUE, MAX = Integer.MAX_VALUE;

    private static final int PROMISES = 25;
    private static final Pattern REFUSALS = Pattern.compile("\\b(BAD|STATE|FULL|NONE|NO)\\b");

    private final Map<Integer, String> promises = new HashMap<>();
    private final Map<Integer, List<String>> tested = new HashMap<>();
    private final String doc;

    Edges(Path document) throws IOException {
        doc = Files.readString(document).replaceAll("\\s+", " ");
        Matcher found = Pattern.compile("## Promise (\\d+): (.*?)(?=## )").matcher(doc);
        while (found.find()) {
            promises.put(Integer.parseInt(found.group(1)), found.group(2));
        }
        Check.due("promises in the document", PROMISES, promises.size());
    }

    /** A sentence of the terms. */
    void term(String words, Runnable test) {
        Check.holds("the document says '" + words + "'", doc.contains(words));
        run("'" + words + "'", test);
    }

    void promise(int number, String words, Runnable test) {
        Check.holds("promise " + number + " says '" + words + "'", promises.getOrDefault(number, "").contains(words));
        tested.computeIfAbsent(number, n -> new ArrayList<>()).add(words);
        run("promise " + number + ", '" + words + "'", test);
    }

    private static void run(String name, Runnable test) {
        int wrong = Check.wrong();
        try {
            test.run();
        } catch (RuntimeException | StackOverflowError thrown) {
            Check.holds("a test ends; it threw " + thrown, false);
        }
        if (Check.wrong() != wrong) {
            System.out.println("  .. that is of " + name);
        }
    }

    /** Every promise has a test, and so has every refusal that its words name. */
    void areAllTested() {
        for (int number = 1; number <= PROMISES; number++) {
            List<String> words = tested.getOrDefault(number, List.of());
            Check.holds("promise " + number + " has a test of its edges", !words.isEmpty());
            Matcher refusals = REFUSALS.matcher(promises.getOrDefault(number, ""));
            while (refusals.find()) {
                Pattern refusal = Pattern.compile("\\b" + refusals.group() + "\\b");
                Check.holds("promise " + number + " has a test of " + refusals.group(),
                    words.stream().anyMatch(w -> refusal.matcher(w).find()));
            }
        }
    }

    // ---- what calls leave as it is

    /**
     * The call's answer, and that it changes nothing: an object made in the same way, but without the
     * call, can't be told from the one with it.
     */
    static void unchanged(String call, long want, Supplier<RodChimes> maker, ToLongFunction<RodChimes> asked) {
        RodChimes x = maker.get();
        Check.due(call, want, () -> asked.applyAsLong(x));
        String with = allOf(x);
        String without = allOf(maker.get());
        Check.holds(call + " changes nothing:\n" + with + " is\n" + without, with.equals(without));
    }

    /** All that can be seen of an object; it is of no use then. */
    private static String allOf(RodChimes x) {
        StringBuilder out = new StringBuilder();
        for (int what = 0; what <= 3; what++) {
            out.append(x.count(what)).append(' ');
        }
        out.append(x.trace()).append(' ').append(x.gusts(0)).append(' ').append(x.gusts(1)).append('\n');
        addMoment(out, x);
        for (int left = x.undo(); left >= 0; left = x.undo()) {
            addMoment(out, x);
        }
        for (int image = 0; image <= 1; image++) {
            out.append(x.back(image)).append(": ");
            addMoment(out, x);
        }
        out.append(x.chime()).append(": ");
        addMoment(out, x);
        return out.toString();
    }

    private static void addMoment(StringBuilder out, RodChimes x) {
        for (int what = 0; what <= 3; what++) {
            out.append(x.now(what)).append(' ');
        }
        out.append(x.now(6));
        for (int r = 0; r < x.count(0); r++) {
            out.append(' ').append(x.rod(r, 3)).append('/').append(x.rod(r, 4));
        }
        out.append('\n');
    }

    // ---- objects

    static RodChimes typed(String text) {
        RodChimes x = new RodChimes();
        Check.type(x, text);
        return x;
    }

    static RodChimes three() {
        return Check.chime(THREE);
    }

    /** Something of all that an object may hold: rods 0 and 1 ring, 2 does not. */
    static RodChimes busy() {
        RodChimes x = Check.chime("d1;" + THREE);
        x.calms();
        x.keep(1);
        x.changes(1, 2);
        x.blows(0, 9);
        x.rate(3, 0);
        x.hears(0, 3, 1);
        x.hears(2, 1, 1);
        x.blows(2, 8);
        x.holds(1);
        x.blows(2, 9);
        Check.type(x, "r5 5 5;r6 6 6;r7 7 7;");
        return x;
    }

    /** As busy() is, with no place for more: of letters, of what is heard, of what may be undone. */
    static RodChimes brimful() {
        RodChimes x = busy();
        x.keep(0);
        for (int i = 0; i < 8; i++) {
            x.changes(0, 1 + i % 2);
        }
        for (int heard = 3; heard <= 6; heard++) {
            Check.due("heard", heard, x.hears(heard % 3, 2, 1));
        }
        Check.type(x, "d2" + " ".repeat(96) + ";");
        Check.due("a full text", 120, x.count(3));
        return x;
    }
}
