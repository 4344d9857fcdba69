import java.util.Random;

/** Runs of calls, drawn by a seed, that the program and the Model must answer alike. */
public final class AgreementTest {
    private static final String[] SEEDS = {
        "a", "b", "c", "ab", ".", "^", "$", "\\b", "\\B", "\\d", "\\w", "[ab]", "[^a]", "[b-d]", "[^\\x0000-\\xffff]", "\\x0061", "\\:", "1", "_", "A", " ", "B",
    };
    private static int calls = 0;
    private static int wrong = 0;

    private final Random random;
    private final PatternWorkshop x = new PatternWorkshop();
    private final Model m = new Model();
    private final StringBuilder log = new StringBuilder();
    private int captures;

    private AgreementTest(long seed) {
        random = new Random(seed);
    }

    public static void main(String[] args) {
        int runs = args.length > 0 ? Integer.parseInt(args[0]) : 4000;
        long begin = args.length > 1 ? Long.parseLong(args[1]) : 1;
        int skipped = 0;
        for (long seed = begin; seed < begin + runs && wrong < 5; seed++) {
            AgreementTest run = new AgreementTest(seed);
            try {
                run.go(seed);
            } catch (Model.TooLong e) {
                skipped++;
            }
        }
        System.out.println("AgreementTest: " + calls + " calls, " + wrong + " wrong; " + skipped + " runs ended early");
        if (wrong != 0) {
            System.exit(1);
        }
    }

    private int below(int n) {
        return random.nextInt(n);
    }

    private String any(String... texts) {
        return texts[below(texts.length)];
    }

    // ---- patterns

    private String choice(int depth) {
        StringBuilder s = new StringBuilder(row(depth));
        while (below(4) == 0) {
            s.append('|').append(row(depth));
        }
        return s.toString();
    }

    private String row(int depth) {
        StringBuilder s = new StringBuilder();
        for (int n = below(8) == 0 ? 0 : 1 + below(3); n > 0; n--) {
            s.append(one(depth));
            if (below(3) == 0) {
                s.append(any("*", "+", "?", "{2}", "{0}", "{1,}", "{2,}", "{0,2}", "{1,3}", "{0,1}", "{0,}", "{3,20}", "{12}")).append(any("", "", "?", "+"));
            }
        }
        return s.toString();
    }

    private String one(int depth) {
        if (depth > 0 && below(2) == 0) {
            String mark = any("", "", "", ":", ":", ":", ":", "=", "!", "<", "~", "*", "%", "@" + (char) ('a' + below(4)), "#");
            captures += mark.isEmpty() || mark.startsWith("@") ? 1 : 0;
            return "(" + mark + (mark.equals("#") ? "x" : choice(depth - 1)) + ")";
        }
        if (below(12) == 0) {
            return captures > 0 ? "\\" + (1 + below(captures)) : "\\@" + (char) ('a' + below(4));
        }
        return below(3) > 0 ? any("a", "b", "a", "b", "c", ":") : SEEDS[below(SEEDS.length)];
    }

    /** Texts near the limits. */
    private String large() {
        int n = below(25);
        switch (below(12)) {
            case 0:
                return any("\\w", "\\d", "ab", "a*", "\\x0100", "[a-c]").repeat(n == 0 ? 1 : 200 / n);
            case 1:
                return any("a", ".", "(#y)a", "|").repeat(90 + n);
            case 2:
                return any("(", "(:", "(=", "(%", "(@a", "(*").repeat(below(12)) + "a" + any("", "(#x)", "()", "b*") + ")".repeat(below(12));
            case 3:
                return any("()", "(a)", "(a|b)?").repeat(below(12));
            case 4:
                return "(:".repeat(4) + choice(1) + any("){20}", "){3}", "){2,}", "){4}", ")*").repeat(4);
            case 5:
                return "(" + "|".repeat(n) + ")" + any("*", "{3}", "{2,}", "") + row(1);
            case 6:
                return "[" + any("^", "") + set() + "]" + row(1);
            case 7:
                return "(%[" + any("^", "") + set() + "]" + row(1) + ")";
            case 8:
                return any("(:a|b)*a(:a|b){", "a{", "(:ab?){") + n + "}";
            case 9:
                return "(:" + any("a??", "b*?", "a?b??").repeat(below(5)) + "){" + below(12) + "}" + row(1);
            case 10:
                return choice(3) + "|" + choice(3);
            default:
                return "(@a" + choice(1) + ")\\@a" + row(2) + "\\1";
        }
    }

    private String set() {
        StringBuilder s = new StringBuilder();
        for (int i = below(9); i >= 0; i--) {
            s.append(member());
            if (below(3) == 0) {
                s.append('-').append(member());
            }
        }
        return s.toString();
    }

    private String member() {
        return any("a", "b", "e", "z", "A", "M", "Z", "0", "9", "_", "@", " ", "\\-", "\\]", "\\\\", "\\^", "\\@", "\\x0000", "\\xffff", "\\x005b", "\\x0080", "k");
    }

    private String text() {
        captures = 0;
        StringBuilder s = new StringBuilder(below(4) == 0 ? large() : choice(below(4)));
        if (below(5) == 0) {
            String signs = "\\|*+?{}()[].^$abx019,:=!<~%@#- ^A";
            for (int n = 1 + below(3); n > 0; n--) {
                int at = below(s.length() + 1);
                if (below(3) == 0 && at < s.length()) {
                    s.deleteCharAt(at);
                } else {
                    s.insert(at, signs.charAt(below(signs.length())));
                }
            }
        }
        return s.length() > 200 ? s.substring(0, 200) : s.toString();
    }

    // ---- one run

    private void go(long seed) {
        for (int i = 0; seed % 4 != 0 && i < 3; i++) {
            feed(text());
            due("pattern(" + i + ")", x.pattern(i), m.pattern(i));
            put(i, subjectText());
        }
        for (int i = 0; i < 120; i++) {
            int before = wrong;
            act();
            due("finding()", x.finding(), m.finding);
            due("steps()", x.steps(), m.steps);
            due("place()", x.place(), m.place);
            for (int what = 0; what < 7; what++) {
                due("told(" + what + ")", x.told(what), m.told(what));
            }
            if (wrong > before) {
                System.out.println("seed " + seed + ":\n" + log);
                return;
            }
        }
    }

    private void due(String call, int got, int want) {
        calls++;
        log.append(call).append(" = ").append(got).append('\n');
        if (got != want) {
            wrong++;
            log.append("   WRONG, the model says ").append(want).append('\n');
        }
    }

    private void feed(String text) {
        log.append("tape + ").append(text).append('\n');
        for (int i = 0; i < text.length(); i += 8) {
            long w = random.nextLong();
            int n = Math.min(8, text.length() - i);
            for (int j = 0; j < n; j++) {
                w = w << 8 | text.charAt(i + j);
            }
            due("feed(" + n + ", " + w + ")", x.feed(n, w), m.feed(n, w));
        }
    }

    private void put(int subject, String text) {
        log.append("subject ").append(subject).append(" + ").append(text.replaceAll("[^ -~]", "?")).append('\n');
        for (int i = 0; i < text.length(); i += 4) {
            long w = random.nextLong();
            int n = Math.min(4, text.length() - i);
            for (int j = 0; j < n; j++) {
                w = w << 16 | text.charAt(i + j);
            }
            due("put(" + subject + ", " + n + ", " + w + ")", x.put(subject, n, w), m.put(subject, n, w));
        }
    }

    private String subjectText() {
        StringBuilder s = new StringBuilder();
        String signs = any("ab", "abc", "aAbB", "ab1_ :", "aab\n\uffff\u0000c");
        for (int n = below(below(6) == 0 ? 60 : 14); n > 0; n--) {
            s.append(signs.charAt(below(signs.length())));
        }
        return s.toString();
    }

    /** Mostly one that is there. */
    private int slot() {
        return below(25) == 0 ? below(9) - 1 : below(3);
    }

    private int subject() {
        return below(25) == 0 ? below(7) - 1 : below(2);
    }

    private int machine() {
        return below(40) == 0 ? below(6) - 1 : below(3);
    }

    private int from(int subject) {
        String s = subject < 0 || subject > 3 ? null : m.subjects[subject];
        return s == null || below(20) == 0 ? below(20) - 2 : below(3) == 0 ? below(s.length() + 1) : 0;
    }

    private void act() {
        int slot = slot();
        int subject = subject();
        int machine = machine();
        int from = from(subject);
        switch (below(31)) {
            case 0: case 1: case 2: case 3: case 4:
                String text = text();
                if (below(10) > 0) {
                    feed(text);
                }
                due("pattern(" + slot + ")", x.pattern(slot), m.pattern(slot));
                break;
            case 5:
                if (below(4) == 0) {
                    due("forget(" + slot + ")", x.forget(slot), m.forget(slot));
                }
                break;
            case 6: case 7:
                if (below(5) > 0) {
                    due("drop(" + subject + ")", x.drop(subject), m.drop(subject));
                }
                put(subject, subjectText());
                break;
            case 8:
                int n = below(8) - 1;
                due("put(" + subject + ", " + n + ", 97)", x.put(subject, n, 97), m.put(subject, n, 97));
                break;
            case 9:
                due("print(" + slot + ")", x.print(slot), m.print(slot));
                compareOut();
                break;
            case 10:
                nodes(slot);
                break;
            case 11:
                int c = below(10) == 0 ? below(70000) - 2000 : below(130);
                due("begins(" + slot + ", " + c + ")", x.begins(slot, c), m.begins(slot, c));
                due("risky(" + slot + ")", x.risky(slot), m.risky(slot));
                break;
            case 12:
                int k = below(5) - 1;
                due("dead(" + slot + ", " + k + ")", x.dead(slot, k), m.dead(slot, k));
                break;
            case 13: case 14: case 15: case 16:
                find(slot, subject, from, machine);
                break;
            case 17: case 18: case 19:
                int more = below(20) == 0 ? below(4000) : 1 + below(30);
                due("goOn(" + more + ")", x.goOn(more), m.goOn(more));
                spans();
                break;
            case 20: case 21:
                due("whole(" + slot + ", " + subject + ", " + machine + ")", x.whole(slot, subject, machine), m.whole(slot, subject, machine));
                spans();
                break;
            case 22: case 23:
                due("all(" + slot + ", " + subject + ", " + machine + ")", x.all(slot, subject, machine), m.all(slot, subject, machine));
                compareOut();
                break;
            case 24: case 25:
                feed(any("", "<$0>", "$1", "$2-$1", "$$", "x$", "$1$3", "abcdefghijklmnopqrstuvwxyz"));
                due("replace(" + slot + ", " + subject + ", " + machine + ")", x.replace(slot, subject, machine), m.replace(slot, subject, machine));
                compareOut();
                break;
            case 26:
                int bits = below(10) == 0 ? below(80) - 5 : 1 + below(7);
                due("first(" + bits + ", " + subject + ", " + from + ", " + machine + ")", x.first(bits, subject, from, machine), m.first(bits, subject, from, machine));
                break;
            case 27:
                due("prefix(" + slot + ", " + subject + ", " + from + ")", x.prefix(slot, subject, from), m.prefix(slot, subject, from));
                break;
            case 28:
                due("table(" + slot + ")", x.table(slot), m.table(slot));
                due("least(" + slot + ")", x.least(slot), m.least(slot));
                break;
            case 29:
                int other = slot();
                due("compare(" + slot + ", " + other + ")", x.compare(slot, other), m.compare(slot, other));
                due("parting(" + slot + ", " + other + ")", x.parting(slot, other), m.parting(slot, other));
                compareOut();
                break;
            default:
                int name = 95 + below(30);
                due("named(" + slot + ", " + name + ")", x.named(slot, name), m.named(slot, name));
                break;
        }
    }

    private void find(int slot, int subject, int from, int machine) {
        int steps = below(30) == 0 ? below(4000) - 100 : below(2) == 0 ? 3000 : 1 + below(12);
        due("find(" + slot + ", " + subject + ", " + from + ", " + machine + ", " + steps + ")", x.find(slot, subject, from, machine, steps), m.find(slot, subject, from, machine, steps));
        spans();
    }

    private void spans() {
        for (int k = below(15) == 0 ? -1 : 0; k <= m.told(5) + (below(15) == 0 ? 1 : 0); k++) {
            due("span(" + k + ", false)", x.span(k, false), m.span(k, false));
            due("span(" + k + ", true)", x.span(k, true), m.span(k, true));
        }
    }

    private void nodes(int slot) {
        for (int k = -1; k <= 40; k++) {
            for (int what = -1; what < 20; what++) {
                due("node(" + slot + ", " + k + ", " + what + ")", x.node(slot, k, what), m.node(slot, k, what));
            }
            for (int i = -1; i < 6; i++) {
                due("part(" + slot + ", " + k + ", " + i + ", false)", x.part(slot, k, i, false), m.part(slot, k, i, false));
                due("part(" + slot + ", " + k + ", " + i + ", true)", x.part(slot, k, i, true), m.part(slot, k, i, true));
            }
        }
    }

    private void compareOut() {
        for (int i = 0; i < m.out.size() && i < x.told(3); i++) {
            due("out(" + i + ")", x.out(i), m.out.get(i));
        }
    }
}
