import java.io.IOException;
import java.nio.file.Files;
import java.nio.file.Path;
import java.util.TreeSet;
import java.util.function.ToIntFunction;

/** What the tests of boundary cases have in common: the document's sentences, and refusals that change nothing. */
final class Edges {
    /** The finding that is due where a refusal leaves it. */
    static final int LEFT = -1;
    /** Takes more than 3000 steps in thirty times a. */
    static final String SLOW = "(:a*)*(:a*)*b";
    private static final String DOCUMENT = "../shared/DOC.md";

    private static String document = "";
    private static String sentence = "";
    private static final TreeSet<Integer> NAMED = new TreeSet<>();

    private Edges() {
    }

    /** Names the sentence of a promise that the next answers are due by. */
    static void says(int promise, String words) {
        NAMED.add(promise);
        String begin = "## Promise " + promise + ":";
        int from = text().indexOf(begin);
        int to = text().indexOf(" ## ", from + 1);
        stands(words, from < 0 ? "" : text().substring(from, to < 0 ? text().length() : to));
    }

    /** Names a sentence of the terms, or of what stands ahead of them. */
    static void says(String words) {
        stands(words, text().substring(0, Math.max(0, text().indexOf("## Promise 1:"))));
    }

    private static void stands(String words, String where) {
        sentence = words;
        if (isThere()) {
            Kit.due("the document says \"" + words + "\"", where.contains(words.replaceAll("\\s+", " ")), true);
        }
    }

    /** Without the document the answers are still due. */
    private static boolean isThere() {
        return Files.exists(Path.of(DOCUMENT));
    }

    private static String text() {
        if (document.isEmpty() && isThere()) {
            try {
                document = Files.readString(Path.of(DOCUMENT)).replaceAll("\\s+", " ");
            } catch (IOException e) {
                throw new IllegalStateException("no " + DOCUMENT, e);
            }
        }
        return document;
    }

    static void due(String what, Object got, Object want) {
        Kit.due("\"" + sentence + "\": " + what, got, want);
    }

    /** Every promise of these has a sentence that was named. */
    static void end(String name, int first, int last) {
        for (int promise = first; promise <= last; promise++) {
            Kit.due("promise " + promise + " has a test", NAMED.contains(promise), true);
        }
        Kit.end(name);
    }

    /**
     * A workshop in which all is there: slots 0 to 3 and 5 (1 is for machine 0 alone, 2 is too large for
     * the others, 3 is spent in subject 0), subjects 0 and 1 (which is empty), a fault at place 2, a
     * tape, OUT, spans, and a search that can go on.
     */
    static Kit rich() {
        Kit kit = new Kit().pattern(0, "(@na)(b)?").pattern(1, "(=a)a").pattern(2, "(:a{20}){20}").pattern(3, SLOW).pattern(5, "[a]");
        kit.subject(0, "a".repeat(30)).subject(1, "");
        kit.read(4, "ab)");
        kit.x.print(0);
        kit.x.find(0, 0, 2, 0, 3000);
        kit.x.find(0, 0, 0, 0, 1);
        return kit.feed("xy$1");
    }

    /** All that can be asked without changing anything, but the finding, steps, and whether a search can go on. */
    static String rest(Kit kit) {
        StringBuilder s = new StringBuilder("place " + kit.x.place() + " told");
        for (int what = 0; what < 6; what++) {
            s.append(" ").append(kit.x.told(what));
        }
        s.append(" out ").append(kit.numbers()).append(" spans ").append(kit.x.span(0, false) < 0 ? "none" : kit.spans());
        for (int slot : new int[] {0, 1, 2, 3, 5}) {
            s.append(" slot ").append(slot);
            for (int k = 0; k < 20 && kit.x.node(slot, k, 0) >= 0; k++) {
                s.append(" ").append(kit.x.node(slot, k, 0));
            }
        }
        for (int subject = 0; subject < 2; subject++) {
            s.append(" subject ").append(subject).append(" ").append(signs(kit, subject));
        }
        return s.toString();
    }

    private static String signs(Kit kit, int subject) {
        StringBuilder s = new StringBuilder();
        try {
            for (int i = 0; i <= 100; i++) {
                s.append(kit.x.sign(subject, i));
            }
        } catch (ArrayIndexOutOfBoundsException e) {
            s.append(".");
        } catch (NullPointerException e) {
            s.append("nothing");
        }
        return s.toString();
    }

    /** A workshop as of rich() whose latest finding is 1 or 3. */
    private static Kit rich(int finding) {
        Kit kit = rich();
        if (finding == 1) {
            kit.x.part(5, 0, 1, false);
        } else {
            kit.x.node(5, 0, 10);
        }
        return kit;
    }

    /** A call that is refused ahead of any search: nothing changes but the finding. */
    static void refused(String call, int answer, int finding, ToIntFunction<PatternWorkshop> asked) {
        for (int before = 1; before <= 3; before += 2) {
            Kit kit = rich(before);
            String was = rest(kit) + " steps " + kit.x.steps() + " can go on " + kit.x.told(6);
            due(call, asked.applyAsInt(kit.x), answer);
            due("finding() after " + call, kit.x.finding(), finding == LEFT ? before : finding);
            due("all else after " + call, rest(kit) + " steps " + kit.x.steps() + " can go on " + kit.x.told(6), was);
        }
    }

    /** A call that is refused behind a search: no other one can go on, and the steps are of that. */
    static void refusedLate(String call, int answer, int finding, int steps, ToIntFunction<PatternWorkshop> asked) {
        for (int before = 1; before <= 3; before += 2) {
            Kit kit = rich(before);
            String was = rest(kit);
            due(call, asked.applyAsInt(kit.x), answer);
            due("finding() after " + call, kit.x.finding(), finding == LEFT ? before : finding);
            due("all else after " + call, rest(kit), was);
            due("steps and whether a search can go on after " + call, kit.x.steps() + " " + kit.x.told(6), steps + " 0");
            due("goOn() after " + call, kit.x.goOn(1), PatternWorkshop.STATE);
        }
    }
}
