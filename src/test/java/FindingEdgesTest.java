import java.util.function.ToIntFunction;

/** The boundary cases of promises 12 to 24, sentence by sentence. */
public final class FindingEdgesTest {
    private static final int NONE = PatternWorkshop.NONE, UNKNOWN = PatternWorkshop.UNKNOWN, NO_SUBJECT = PatternWorkshop.NO_SUBJECT;
    private static final int OUTSIDE = PatternWorkshop.OUTSIDE, STATE = PatternWorkshop.STATE, KIND = PatternWorkshop.KIND;
    private static final int LARGE = PatternWorkshop.LARGE, SPENT = PatternWorkshop.SPENT, ROOM = PatternWorkshop.ROOM, MORE = PatternWorkshop.MORE;
    private static final int LEFT = Edges.LEFT;
    private static final int[] NO_SLOTS = {-1, 6, Integer.MIN_VALUE, Integer.MAX_VALUE};
    private static final int[] NO_SUBJECTS = {-1, 4, Integer.MIN_VALUE, Integer.MAX_VALUE};
    private static final int[] NO_MACHINES = {-1, 3, Integer.MIN_VALUE, Integer.MAX_VALUE};
    private static final int[] NO_STEPS = {0, 3001, -1, Integer.MIN_VALUE, Integer.MAX_VALUE};

    public static void main(String[] args) {
        puts();
        drops();
        tellsSigns();
        finds();
        refusesToFind();
        goesOn();
        canNotGoOn();
        tellsSpans();
        tellsNames();
        tellsWhole();
        tellsAll();
        replaces();
        refusesToReplace();
        tellsFirst();
        refusesFirst();
        tellsPrefix();
        tellsSteps();
        Edges.end("FindingEdgesTest", 12, 24);
    }

    private static void puts() {
        Edges.says(12, "The n lowest of four signs (16 bits each) of w, the highest first, come behind a SUBJECT (which is there then, also with n 0): how many it has.");
        long w = 0xffff00008000007fL;
        int[] signs = {65535, 0, 32768, 127};
        for (int n = 0; n <= 4; n++) {
            Kit kit = new Kit();
            Edges.due("put of " + n, kit.x.put(3, n, w) + " " + kit.x.told(2), n + " 1");
            for (int i = 0; i < n; i++) {
                Edges.due("sign " + i, (int) kit.x.sign(3, i), signs[4 - n + i]);
            }
            Edges.due("behind it", kit.x.put(3, 1, 98) + " " + kit.x.sign(3, n), n + 1 + " b");
        }
        Edges.says(12, "UNKNOWN: the number; OUTSIDE: n is not 0 to 4; ROOM: more than 100.");
        for (int subject : NO_SUBJECTS) {
            Edges.refused("put to " + subject, UNKNOWN, LEFT, x -> x.put(subject, 9, 0));
        }
        for (int n : new int[] {-1, 5, Integer.MIN_VALUE, Integer.MAX_VALUE}) {
            Edges.refused("put of " + n, OUTSIDE, LEFT, x -> x.put(0, n, 0));
            Edges.refused("put of " + n + " to none", OUTSIDE, LEFT, x -> x.put(2, n, 0));
        }
        for (int n = 1; n <= 4; n++) {
            Kit kit = new Kit().subject(0, "a".repeat(100 - n));
            Edges.due("up to 100", kit.x.put(0, n, 0) + " " + kit.x.put(0, 0, 0), "100 100");
            kit = new Kit().subject(0, "a".repeat(101 - n));
            int before = kit.x.finding();
            Edges.due("beyond 100", kit.x.put(0, n, 0) + " " + kit.x.put(0, 0, 0) + " " + kit.x.finding(), ROOM + " " + (101 - n) + " " + before);
            Edges.due("outside is told ahead of it", kit.x.put(0, 5, 0), OUTSIDE);
        }
        Edges.says(12, "A search that could go on over it is no more.");
        for (int n = 0; n <= 4; n++) {
            Kit kit = Edges.rich();
            kit.x.put(1, n, 0);
            Edges.due("another one", kit.x.told(6), 1);
            kit.x.put(0, n, 0);
            Edges.due("put of " + n, kit.x.told(6) + " " + kit.x.goOn(1), "0 " + STATE);
        }
        Kit full = new Kit().pattern(0, "ab").subject(0, "a".repeat(100));
        full.x.find(0, 0, 0, 0, 1);
        full.x.put(0, 1, 0);
        Edges.due("a put that is refused", full.x.told(6), 1);
    }

    private static void drops() {
        Edges.says(13, "A SUBJECT is no more: how many signs it had. UNKNOWN; NO_SUBJECT. A search that could go on over it is no more.");
        Kit kit = new Kit().subject(0, "").subject(3, "a".repeat(100));
        Edges.due("of no signs", kit.x.drop(0) + " " + kit.x.told(2), "0 1");
        Edges.due("of 100", kit.x.drop(3) + " " + kit.x.told(2), "100 0");
        Edges.due("anew", kit.x.put(3, 1, 97), 1);
        for (int subject : NO_SUBJECTS) {
            Edges.refused("drop of " + subject, UNKNOWN, LEFT, x -> x.drop(subject));
        }
        Edges.refused("drop of none", NO_SUBJECT, 2, x -> x.drop(2));
        kit = Edges.rich();
        Edges.due("another one", kit.x.drop(1) + " " + kit.x.told(6), "0 1");
        Edges.due("its own", kit.x.drop(0) + " " + kit.x.told(6) + " " + kit.x.goOn(1), "30 0 " + STATE);
        Edges.due("what was found stays", kit.spans(), "2-3 2-3 .");
    }

    private static String sign(PatternWorkshop x, int subject, int i) {
        try {
            return String.valueOf((int) x.sign(subject, i));
        } catch (ArrayIndexOutOfBoundsException e) {
            return "index";
        } catch (NullPointerException e) {
            return "nothing";
        }
    }

    private static void tellsSigns() {
        Edges.says(14, "Sign i of a SUBJECT. ArrayIndexOutOfBoundsException: no such number, sign; NullPointerException: it is not there. (Of several: the number, NullPointer, the sign.)");
        Kit kit = new Kit().subject(0, "a".repeat(99) + "b").subject(1, "").subject(3, "\u0000\uffff");
        PatternWorkshop x = kit.x;
        Edges.due("the ends", sign(x, 0, 0) + " " + sign(x, 0, 99) + " " + sign(x, 3, 0) + " " + sign(x, 3, 1), "97 98 0 65535");
        Edges.due("beyond them", sign(x, 0, -1) + " " + sign(x, 0, 100) + " " + sign(x, 3, 2) + " " + sign(x, 1, 0), "index index index index");
        for (int i : new int[] {Integer.MIN_VALUE, -1, 0, Integer.MAX_VALUE}) {
            Edges.due("of none, sign " + i, sign(x, 2, i), "nothing");
            Edges.due("of no number, sign " + i, sign(x, -1, i) + " " + sign(x, 4, i) + " " + sign(x, Integer.MIN_VALUE, i) + " " + sign(x, Integer.MAX_VALUE, i), "index index index index");
        }
        x.drop(0);
        Edges.due("dropped", sign(x, 0, 0), "nothing");
        Edges.refused("sign of none", 0, LEFT, y -> sign(y, 2, 0).equals("nothing") ? 0 : 1);
        Edges.refused("no such sign", 0, LEFT, y -> sign(y, 0, 30).equals("index") ? 0 : 1);
        Edges.refused("sign of no number", 0, LEFT, y -> sign(y, 4, 0).equals("index") ? 0 : 1);
    }

    private static void finds() {
        Edges.says(15, "1 found, 0 none; by machine 0 MORE: so many STEPS (1 to 3000) were done, and it would take more: it can go on (but the 3001st: SPENT).");
        Kit kit = new Kit().pattern(0, "ab").pattern(1, Edges.SLOW).subject(0, "cab").subject(1, "a".repeat(30));
        for (int machine = 0; machine < 3; machine++) {
            Edges.due("found by " + machine, kit.x.find(0, 0, 1, machine, 2), 1);
            Edges.due("none by " + machine, kit.x.find(0, 0, 2, machine, 3), 0);
        }
        Edges.due("three steps are done", kit.x.find(0, 0, 0, 0, 3) + " " + kit.x.told(6) + " " + kit.x.steps(), "1 0 3");
        Edges.due("two are not", kit.x.find(0, 0, 0, 0, 2) + " " + kit.x.told(6) + " " + kit.x.steps(), MORE + " 1 2");
        Edges.due("one is not", kit.x.find(0, 0, 0, 0, 1) + " " + kit.x.told(6) + " " + kit.x.steps(), MORE + " 1 1");
        Edges.due("2999 are not", kit.x.find(1, 1, 0, 0, 2999) + " " + kit.x.told(6) + " " + kit.x.steps(), MORE + " 1 2999");
        Edges.due("3000 are spent", kit.x.find(1, 1, 0, 0, 3000) + " " + kit.x.told(6) + " " + kit.x.steps(), SPENT + " 0 3000");
        kit.pattern(2, "");
        Edges.due("without a step", kit.x.find(2, 0, 0, 0, 1) + " " + kit.x.steps(), "1 0");
    }

    private static void refusesToFind() {
        Edges.says(15, "UNKNOWN; NO_SUBJECT; OUTSIDE: PLACE, MACHINE, steps (of 1, 2 not looked at); KIND; LARGE; SPENT (no search can go on then).");
        Edges.refused("no pattern", UNKNOWN, 2, x -> x.find(4, 2, -1, -1, 0));
        for (int slot : NO_SLOTS) {
            Edges.refused("slot " + slot, UNKNOWN, LEFT, x -> x.find(slot, 0, 0, 0, 9));
            Edges.refused("slot " + slot + " and no subject", UNKNOWN, LEFT, x -> x.find(slot, 2, 0, 0, 9));
        }
        for (int subject : NO_SUBJECTS) {
            Edges.refused("subject " + subject, UNKNOWN, LEFT, x -> x.find(0, subject, 0, 0, 9));
        }
        Edges.refused("no subject", NO_SUBJECT, 2, x -> x.find(0, 2, -1, -1, 0));
        Edges.refused("no subject, of a kind", NO_SUBJECT, 2, x -> x.find(1, 3, 0, 1, 0));
        for (int from : new int[] {-1, 31, Integer.MIN_VALUE, Integer.MAX_VALUE}) {
            Edges.refused("place " + from, OUTSIDE, LEFT, x -> x.find(1, 0, from, 1, 9));
        }
        Edges.refused("place 1 of no signs", OUTSIDE, LEFT, x -> x.find(0, 1, 1, 0, 9));
        for (int machine : NO_MACHINES) {
            Edges.refused("machine " + machine, OUTSIDE, LEFT, x -> x.find(1, 0, 0, machine, 9));
        }
        for (int steps : NO_STEPS) {
            Edges.refused("steps " + steps, OUTSIDE, LEFT, x -> x.find(3, 0, 0, 0, steps));
            for (int machine = 1; machine < 3; machine++) {
                Kit kit = Edges.rich();
                Edges.due(steps + " steps of " + machine, kit.x.find(5, 0, 30, machine, steps) + " " + kit.x.find(5, 0, 29, machine, steps), "0 1");
                int one = machine;
                Edges.refused("of a kind", KIND, LEFT, x -> x.find(1, 0, 0, one, steps));
                Edges.refused("too large", LARGE, LEFT, x -> x.find(2, 0, 0, one, steps));
            }
        }
        Edges.refusedLate("spent", SPENT, LEFT, 3000, x -> x.find(3, 0, 0, 0, 3000));
        Kit kit = Edges.rich();
        Edges.due("the last place", kit.x.find(0, 0, 30, 0, 9) + " " + kit.x.find(0, 1, 0, 0, 9), "0 0");
    }

    private static void goesOn() {
        Edges.says(16, "The search that told MORE latest goes on, so many STEPS more: as find().");
        Kit kit = new Kit().pattern(0, "abc").pattern(1, Edges.SLOW).subject(0, "aabc").subject(1, "a".repeat(30));
        Edges.due("find", kit.x.find(0, 0, 0, 0, 1) + " " + kit.x.steps(), MORE + " 1");
        Edges.due("goOn(1)", kit.x.goOn(1) + " " + kit.x.steps(), MORE + " 2");
        Edges.due("goOn(2)", kit.x.goOn(2) + " " + kit.x.steps(), MORE + " 4");
        Edges.due("goOn(1), the last", kit.x.goOn(1) + " " + kit.x.steps() + " " + kit.spans(), "1 5 1-4");
        kit.x.find(0, 0, 3, 0, 1);
        Edges.due("to none", kit.x.goOn(3000) + " " + kit.x.steps() + " " + kit.x.span(0, true), "0 2 " + UNKNOWN);
        kit.x.find(0, 0, 0, 0, 1);
        kit.x.find(1, 1, 0, 0, 1);
        Edges.due("the latest", kit.x.goOn(2998) + " " + kit.x.steps(), MORE + " 2999");
        Edges.due("the last step", kit.x.goOn(1) + " " + kit.x.steps() + " " + kit.x.told(6), SPENT + " 3000 0");
        Edges.says(16, "SPENT.");
        for (int steps : new int[] {2999, 3000}) {
            Edges.due("find", kit.x.find(1, 1, 0, 0, 1), MORE);
            Edges.due("goOn(" + steps + ")", kit.x.goOn(steps) + " " + kit.x.steps() + " " + kit.x.goOn(1), SPENT + " 3000 " + STATE);
        }
        Edges.due("nothing was told", kit.x.span(0, true) + " " + kit.x.finding(), UNKNOWN + " 2");
    }

    private static void canNotGoOn() {
        Edges.says(16, "OUTSIDE; STATE: none can go on (it told another answer, another find(), whole(), all(), replace(), first() was asked since that was not refused ahead of its search, or its pattern, SUBJECT is another one).");
        for (int steps : NO_STEPS) {
            Edges.refused("goOn(" + steps + ")", OUTSIDE, LEFT, x -> x.goOn(steps));
            Edges.due("goOn(" + steps + ") of none", new PatternWorkshop().goOn(steps), OUTSIDE);
        }
        Edges.due("before any", new PatternWorkshop().goOn(1) + " " + new PatternWorkshop().goOn(3000), STATE + " " + STATE);
        for (int machine = 0; machine < 3; machine++) {
            int one = machine;
            ends("find by " + one, x -> x.find(5, 0, 0, one, 9));
            ends("a find of none by " + one, x -> x.find(5, 1, 0, one, 9));
            ends("whole by " + one, x -> x.whole(5, 1, one));
            ends("all by " + one, x -> x.all(5, 1, one));
            ends("replace by " + one, x -> x.replace(0, 1, one));
            ends("first by " + one, x -> x.first(32, 1, 0, one));
        }
        ends("another answer", x -> x.goOn(3000));
        ends("a spent whole", x -> x.whole(3, 0, 0));
        ends("a spent all", x -> x.all(3, 0, 0));
        ends("a spent first", x -> x.first(8, 0, 0, 0));
        ends("another pattern", x -> x.pattern(0));
        ends("no pattern", x -> x.forget(0));
        ends("another subject", x -> x.put(0, 1, 0));
        ends("no subject", x -> x.drop(0));
        ends("clear", x -> x.clear());
        Kit kit = Edges.rich();
        kit.x.find(1, 0, 0, 1, 1);
        kit.x.whole(2, 0, 2);
        kit.x.all(4, 0, 0);
        kit.x.replace(5, 0, 0);
        kit.x.first(64, 0, 0, 0);
        kit.x.prefix(5, 0, 0);
        kit.x.least(5);
        kit.x.parting(5, 5);
        kit.x.print(5);
        Edges.due("refused ones and others", kit.x.told(6) + " " + kit.x.goOn(1), "1 " + MORE);
    }

    private static void ends(String call, ToIntFunction<PatternWorkshop> asked) {
        Kit kit = Edges.rich();
        Edges.due("ahead of " + call, kit.x.told(6), 1);
        asked.applyAsInt(kit.x);
        Edges.due("after " + call, kit.x.told(6) + " " + kit.x.goOn(1), "0 " + STATE);
    }

    private static void tellsSpans() {
        Edges.says(17, "Capture k (0 the whole) of what find(), goOn() or whole() found latest: its begin (end = false) or end; NONE: it was none.");
        Kit kit = new Kit().pattern(0, "()".repeat(7) + "(b)|(a)").pattern(1, "x").subject(0, "xa");
        kit.x.find(0, 0, 1, 0, 99);
        Edges.due("spans", kit.spans(), "1-2" + " .".repeat(8) + " 1-2");
        kit.x.whole(0, 0, 0);
        kit.pattern(0, "()".repeat(7) + "((b)|(:a))");
        kit.x.find(0, 0, 1, 0, 99);
        Edges.due("spans", kit.spans(), "1-2" + " 1-1".repeat(7) + " 1-2 .");
        Edges.due("none", kit.x.span(9, false) + " " + kit.x.span(9, true), NONE + " " + NONE);
        Edges.says(17, "UNKNOWN: nothing was found by the latest of them that told 1 or 0, or before any.");
        Edges.due("before any", new PatternWorkshop().span(0, true) + " " + new PatternWorkshop().span(-1, false), UNKNOWN + " " + UNKNOWN);
        kit.x.find(1, 0, 0, 0, 1);
        Edges.due("found", kit.spans(), "0-1");
        kit.pattern(2, "xa");
        kit.pattern(3, "(:(:(:x?){20}){20}){20}");
        Edges.due("more, refused, spent", kit.x.find(2, 0, 0, 0, 1) + " " + kit.x.find(2, 0, 3, 0, 1) + " " + kit.x.find(3, 0, 0, 0, 3000) + " " + kit.x.whole(3, 0, 0), MORE + " " + OUTSIDE + " " + SPENT + " " + SPENT);
        kit.x.all(2, 0, 0);
        kit.x.replace(2, 0, 0);
        kit.x.first(4, 0, 0, 0);
        Edges.due("it stays", kit.spans(), "0-1");
        kit.x.find(1, 0, 1, 0, 9);
        Edges.due("none was found", kit.x.span(0, false) + " " + kit.x.span(1, true) + " " + kit.x.finding(), UNKNOWN + " " + UNKNOWN + " 2");
        kit.x.find(2, 0, 0, 0, 1);
        kit.x.goOn(1);
        Edges.due("by goOn()", kit.spans(), "0-2");
        kit.x.whole(1, 0, 1);
        Edges.due("by whole() none", kit.x.span(0, false), UNKNOWN);
        kit.x.whole(2, 0, 1);
        Edges.due("by whole()", kit.spans(), "0-2");
        Edges.says(17, "OUTSIDE: k is no capture of that pattern (a finding: 1).");
        for (int k : new int[] {-1, 3, 10, Integer.MIN_VALUE, Integer.MAX_VALUE}) {
            Edges.refused("span " + k, OUTSIDE, 1, x -> x.span(k, true));
            Edges.refused("span " + k, OUTSIDE, 1, x -> x.span(k, false));
        }
        kit.pattern(0, "()".repeat(9));
        kit.x.find(0, 0, 0, 0, 1);
        Edges.due("the ninth", kit.x.span(9, true) + " " + kit.x.span(10, true), "0 " + OUTSIDE);
        kit.pattern(0, "(x)");
        Edges.due("of that pattern, not of the slot's", kit.x.span(9, true), 0);
    }

    private static void tellsNames() {
        Edges.says(18, "The capture with a name (97 to 122) of a slot's pattern; NONE. UNKNOWN; OUTSIDE.");
        Kit kit = new Kit().pattern(0, "(@z)()" + "()".repeat(6) + "(@a)");
        Edges.due("names", kit.x.named(0, 97) + " " + kit.x.named(0, 122) + " " + kit.x.named(0, 98) + " " + kit.x.named(0, 121), "9 1 " + NONE + " " + NONE);
        kit.pattern(0, "(a)").pattern(1, "(@aa)");
        Edges.due("another pattern", kit.x.named(0, 97) + " " + kit.x.named(1, 97), NONE + " 1");
        for (int name : new int[] {96, 123, 65, 0, -1, Integer.MIN_VALUE, Integer.MAX_VALUE}) {
            Edges.refused("name " + name, OUTSIDE, LEFT, x -> x.named(0, name));
            Edges.refused("name " + name + " of no pattern", UNKNOWN, 2, x -> x.named(4, name));
        }
        for (int slot : NO_SLOTS) {
            Edges.refused("slot " + slot, UNKNOWN, LEFT, x -> x.named(slot, 97));
        }
    }

    private static void tellsWhole() {
        Edges.says(19, "WHOLE: 1 (spans as of find()), 0. UNKNOWN; NO_SUBJECT; OUTSIDE: MACHINE; KIND; LARGE; SPENT.");
        Kit kit = new Kit().pattern(0, "(a*?)(b)?").subject(0, "").subject(1, "a".repeat(100)).subject(2, "a".repeat(99) + "c");
        for (int machine = 0; machine < 3; machine++) {
            Edges.due("no signs", kit.x.whole(0, 0, machine) + " " + kit.spans(), "1 0-0 0-0 .");
            Edges.due("100", kit.x.whole(0, 1, machine) + " " + kit.spans(), "1 0-100 0-100 .");
            Edges.due("not to the end", kit.x.whole(0, 2, machine) + " " + kit.x.span(0, true), "0 " + UNKNOWN);
        }
        Edges.refused("no pattern", UNKNOWN, 2, x -> x.whole(4, 2, 3));
        for (int slot : NO_SLOTS) {
            Edges.refused("slot " + slot, UNKNOWN, LEFT, x -> x.whole(slot, 2, 3));
        }
        for (int subject : NO_SUBJECTS) {
            Edges.refused("subject " + subject, UNKNOWN, LEFT, x -> x.whole(0, subject, 3));
        }
        Edges.refused("no subject", NO_SUBJECT, 2, x -> x.whole(1, 2, 3));
        for (int machine : NO_MACHINES) {
            Edges.refused("machine " + machine, OUTSIDE, LEFT, x -> x.whole(1, 0, machine));
        }
        for (int machine = 1; machine < 3; machine++) {
            int one = machine;
            Edges.refused("of a kind", KIND, LEFT, x -> x.whole(1, 0, one));
            Edges.refused("too large", LARGE, LEFT, x -> x.whole(2, 0, one));
        }
        Edges.refusedLate("spent", SPENT, LEFT, 3000, x -> x.whole(3, 0, 0));
    }

    private static void all(String text, String subject, String due) {
        Kit kit = new Kit().pattern(0, text).subject(0, subject);
        for (int machine = 0; machine < 3; machine++) {
            Edges.due(text + " in " + subject, kit.x.all(0, 0, machine) + ": " + kit.numbers(), due);
            Edges.due("a row of numbers", kit.x.told(4), 1);
        }
    }

    private static void tellsAll() {
        Edges.says(20, "OUT is a row of numbers: of each FIND, from PLACE 0 on, its begin and end; the next one from its end on, if it is empty from one PLACE further (beyond n: none): how many there are.");
        all("", "", "1: 0 0");
        all("a", "", "0: ");
        all("", "a", "2: 0 0 1 1");
        all("a*", "aa", "2: 0 2 2 2");
        all("a*", "baab", "4: 0 0 1 3 3 3 4 4");
        all("a*?", "aa", "3: 0 0 1 1 2 2");
        all("aa", "aaa", "1: 0 2");
        all("a|", "ba", "3: 0 0 1 2 2 2");
        all("(:a|)(:b|)", "ab", "2: 0 2 2 2");
        Kit kit = new Kit().pattern(0, "").pattern(1, "a").subject(0, "a".repeat(100));
        for (int machine = 0; machine < 3; machine++) {
            Edges.due("101 finds", kit.x.all(0, 0, machine) + " " + kit.x.told(3) + " " + kit.x.out(0) + " " + kit.x.out(200) + " " + kit.x.out(201), "101 202 0 100 100");
            Edges.due("100 finds", kit.x.all(1, 0, machine) + " " + kit.x.told(3) + " " + kit.x.out(198) + " " + kit.x.out(199), "100 200 99 100");
        }
        kit.pattern(2, "^a").pattern(3, "(<a)a");
        Edges.due("each from its place on", kit.x.all(2, 0, 0) + " " + kit.x.all(3, 0, 0), "1 99");
        Edges.says(20, "UNKNOWN; NO_SUBJECT; OUTSIDE; KIND; LARGE; SPENT (by one of them: OUT stays).");
        Edges.refused("no pattern", UNKNOWN, 2, x -> x.all(4, 2, 3));
        for (int slot : NO_SLOTS) {
            Edges.refused("slot " + slot, UNKNOWN, LEFT, x -> x.all(slot, 2, 3));
        }
        for (int subject : NO_SUBJECTS) {
            Edges.refused("subject " + subject, UNKNOWN, LEFT, x -> x.all(0, subject, 3));
        }
        Edges.refused("no subject", NO_SUBJECT, 2, x -> x.all(1, 2, 3));
        for (int machine : NO_MACHINES) {
            Edges.refused("machine " + machine, OUTSIDE, LEFT, x -> x.all(1, 0, machine));
        }
        for (int machine = 1; machine < 3; machine++) {
            int one = machine;
            Edges.refused("of a kind", KIND, LEFT, x -> x.all(1, 0, one));
            Edges.refused("too large", LARGE, LEFT, x -> x.all(2, 0, one));
        }
        Edges.refusedLate("spent", SPENT, LEFT, 3000, x -> x.all(3, 0, 0));
        kit = new Kit().pattern(0, "b|" + Edges.SLOW).pattern(1, "q").subject(0, "bb" + "a".repeat(30));
        kit.x.print(1);
        Edges.due("by a later one", kit.x.all(0, 0, 0) + " " + kit.out() + " " + kit.x.told(4), SPENT + " q 0");
    }

    private static void replaced(String text, String subject, String tape, String due) {
        for (int machine = 0; machine < 3; machine++) {
            Kit kit = new Kit().pattern(0, text).subject(0, subject).feed(tape);
            Edges.due(text + " in " + subject + " by " + tape, kit.x.replace(0, 0, machine) + " " + kit.out(), due.length() + " " + due);
            Edges.due("the tape is empty, OUT has signs", kit.x.told(0) + " " + kit.x.told(4), "0 0");
        }
    }

    private static void replaces() {
        Edges.says(21, "$ and a digit: the signs of that capture (nothing, if it is none), $ and another sign: that sign; other signs as they are: how many signs.");
        replaced("", "", "", "");
        replaced("", "", "x", "x");
        replaced("a", "", "x", "");
        replaced("a", "bab", "", "bb");
        replaced("", "ab", "-", "-a-b-");
        replaced("(a)|(b)", "ab", "<$0$1$2>", "<aa><bb>");
        replaced("()".repeat(8) + "(a)", "xay", "$9$8$00$01", "xaa0a1y");
        replaced("a", "a", "$$$ $a$~$$0", "$ a~$0");
        replaced("a", "a", "$$", "$");
        replaced("a", "\u0000a\uffff", "$0$0", "\u0000aa\uffff");
        replaced("a", "a".repeat(100), "$0$0$0$0", "a".repeat(400));
        replaced("a", "a", "x".repeat(200), "x".repeat(200));
        replaced("a", "a".repeat(2), "x".repeat(200), "x".repeat(400));
    }

    private static Kit replacing(String tape) {
        Kit kit = new Kit().pattern(0, "(a)(b)?").pattern(1, "(=a)a").pattern(2, "(:a{20}){20}").pattern(3, Edges.SLOW).pattern(4, "b|" + Edges.SLOW);
        kit.x.print(1);
        return kit.subject(0, "a".repeat(30)).subject(1, "b".repeat(60) + "a".repeat(40)).feed(tape);
    }

    private static void refusedToReplace(String what, String tape, int[] call, int due, int finding) {
        Kit kit = replacing(tape);
        kit.x.span(0, true);
        int before = kit.x.finding();
        Edges.due(what, kit.x.replace(call[0], call[1], call[2]), due);
        Edges.due("the tape, OUT, the finding after " + what, kit.x.told(0) + " " + kit.out() + " " + kit.x.finding(), tape.length() + " (=a)a " + (finding == LEFT ? before : finding));
    }

    private static void refusesToReplace() {
        Edges.says(21, "STATE: THE TAPE ends with a single $, or has $ and a digit that is no capture; KIND; LARGE; SPENT; ROOM: more than 400 signs (with all of these THE TAPE stays).");
        for (String tape : new String[] {"$", "a$", "$$$", "$0$", "$3", "x$9y", "$$$3", "$1$2$3", "$2$"}) {
            refusedToReplace("the tape " + tape, tape, new int[] {0, 0, 0}, STATE, LEFT);
        }
        for (String tape : new String[] {"$$", "$2", "$$3", "$0", "$$$$", ""}) {
            Kit kit = replacing(tape);
            Edges.due("the tape " + tape, kit.x.replace(0, 0, 0) >= 0, true);
        }
        refusedToReplace("the machine ahead of the state", "$", new int[] {1, 0, 3}, OUTSIDE, LEFT);
        refusedToReplace("the state ahead of the kind", "$", new int[] {1, 0, 1}, STATE, LEFT);
        refusedToReplace("the state ahead of large", "$1", new int[] {2, 0, 1}, STATE, LEFT);
        refusedToReplace("the state ahead of spent", "$1", new int[] {3, 0, 0}, STATE, LEFT);
        for (int machine = 1; machine < 3; machine++) {
            refusedToReplace("of a kind", "x", new int[] {1, 0, machine}, KIND, LEFT);
            refusedToReplace("too large", "x", new int[] {2, 0, machine}, LARGE, LEFT);
            refusedToReplace("room", "x".repeat(14), new int[] {0, 0, machine}, ROOM, 4);
        }
        refusedToReplace("spent", "x", new int[] {3, 0, 0}, SPENT, LEFT);
        refusedToReplace("spent ahead of room", "12345678", new int[] {4, 1, 0}, SPENT, LEFT);
        refusedToReplace("room", "x".repeat(14), new int[] {0, 0, 0}, ROOM, 4);
        Kit kit = new Kit().pattern(0, "^a").subject(0, "a".repeat(100)).feed("$0".repeat(99) + "a");
        Edges.due("199 and 100", kit.x.replace(0, 0, 0), 199);
        kit.pattern(0, "a").subject(0, "a".repeat(80) + "b".repeat(1)).feed("12345");
        Edges.due("401", kit.x.replace(0, 0, 0) + " " + kit.x.told(0), ROOM + " 5");
        kit.subject(0, "a".repeat(80));
        Edges.due("400", kit.x.replace(0, 0, 0) + " " + kit.x.told(0), "400 0");
        kit.subject(0, "b" + "a".repeat(80)).feed("12345");
        Edges.due("401 by the end", kit.x.replace(0, 0, 2) + " " + kit.x.told(0) + " " + kit.x.told(3), ROOM + " 5 400");
        Edges.says(21, "UNKNOWN; NO_SUBJECT; OUTSIDE: MACHINE;");
        Edges.refused("no pattern", UNKNOWN, 2, x -> x.replace(4, 2, 3));
        for (int slot : NO_SLOTS) {
            Edges.refused("slot " + slot, UNKNOWN, LEFT, x -> x.replace(slot, 2, 3));
        }
        for (int subject : NO_SUBJECTS) {
            Edges.refused("subject " + subject, UNKNOWN, LEFT, x -> x.replace(0, subject, 3));
        }
        Edges.refused("no subject", NO_SUBJECT, 2, x -> x.replace(5, 2, 3));
        for (int machine : NO_MACHINES) {
            Edges.refused("machine " + machine, OUTSIDE, LEFT, x -> x.replace(5, 0, machine));
        }
        Edges.refused("a digit that is no capture", STATE, LEFT, x -> x.replace(5, 0, 0));
    }

    private static void tellsFirst() {
        Edges.says(22, "Of the patterns whose bits are told that which is FOUND in a SUBJECT from a PLACE on at the least PLACE, of several the least slot; NONE.");
        Kit kit = new Kit().subject(0, "abcdef").subject(1, "");
        for (int slot = 0; slot < 6; slot++) {
            kit.pattern(slot, String.valueOf((char) ('f' - slot)));
        }
        for (int machine = 0; machine < 3; machine++) {
            for (int bits = 1; bits < 64; bits++) {
                int highest = 31 - Integer.numberOfLeadingZeros(bits);
                Edges.due("bits " + bits, kit.x.first(bits, 0, 0, machine), highest);
            }
            Edges.due("from a place", kit.x.first(63, 0, 1, machine) + " " + kit.x.first(63, 0, 5, machine) + " " + kit.x.first(63, 0, 6, machine), "4 0 " + NONE);
            Edges.due("in no signs", kit.x.first(63, 1, 0, machine), NONE);
        }
        kit = new Kit().pattern(0, "b").pattern(1, "ab").pattern(2, "a").pattern(5, "").subject(0, "xab");
        for (int machine = 0; machine < 3; machine++) {
            Edges.due("of several the least", kit.x.first(6, 0, 0, machine) + " " + kit.x.first(7, 0, 0, machine) + " " + kit.x.first(7, 0, 2, machine), "1 1 0");
            Edges.due("an empty one", kit.x.first(39, 0, 0, machine) + " " + kit.x.first(39, 0, 1, machine) + " " + kit.x.first(39, 0, 3, machine), "5 1 5");
        }
    }

    private static void refusesFirst() {
        Edges.says(22, "UNKNOWN: a bit beyond 63, 0, or a slot without a pattern; NO_SUBJECT; OUTSIDE: PLACE, MACHINE; KIND; LARGE; SPENT (by the first slot for which each is so, these asked of all slots ahead of any search, but SPENT).");
        for (int bits : new int[] {0, 64, 65, 128, -1, -64, Integer.MIN_VALUE, Integer.MAX_VALUE, 1 << 30}) {
            Edges.refused("bits " + bits, UNKNOWN, LEFT, x -> x.first(bits, 0, 0, 0));
        }
        Edges.refused("a slot without a pattern", UNKNOWN, 2, x -> x.first(16, 2, -1, 3));
        Edges.refused("one of all", UNKNOWN, 2, x -> x.first(63, 0, 0, 0));
        for (int slot = 0; slot < 6; slot++) {
            Kit kit = new Kit().subject(0, "");
            for (int other = 0; other < 6; other++) {
                kit.pattern(other, "");
            }
            kit.x.forget(slot);
            Edges.due("slot " + slot + " alone", kit.x.first(1 << slot, 0, 0, 0), UNKNOWN);
            Edges.due("slot " + slot + " and others", kit.x.first(63, 0, 0, 1), UNKNOWN);
            Edges.due("others", kit.x.first(63 & ~(1 << slot), 0, 0, 2), slot == 0 ? 1 : 0);
        }
        for (int subject : NO_SUBJECTS) {
            Edges.refused("subject " + subject, UNKNOWN, LEFT, x -> x.first(1, subject, -1, 3));
        }
        Edges.refused("no subject", NO_SUBJECT, 2, x -> x.first(3, 2, -1, 3));
        for (int from : new int[] {-1, 31, Integer.MIN_VALUE, Integer.MAX_VALUE}) {
            Edges.refused("place " + from, OUTSIDE, LEFT, x -> x.first(3, 0, from, 1));
        }
        for (int machine : NO_MACHINES) {
            Edges.refused("machine " + machine, OUTSIDE, LEFT, x -> x.first(3, 0, 0, machine));
        }
        for (int machine = 1; machine < 3; machine++) {
            int one = machine;
            Edges.refused("of a kind", KIND, LEFT, x -> x.first(3, 0, 0, one));
            Edges.refused("of a kind by a later slot", KIND, LEFT, x -> x.first(35, 0, 0, one));
            Edges.refused("too large", LARGE, LEFT, x -> x.first(37, 0, 0, one));
            Edges.refused("a kind ahead of large", KIND, LEFT, x -> x.first(6, 0, 0, one));
        }
        Edges.refusedLate("spent", SPENT, LEFT, 3000, x -> x.first(8, 0, 0, 0));
        Edges.refusedLate("spent by one of several", SPENT, LEFT, 3000, x -> x.first(43, 0, 0, 0));
    }

    private static void prefix(String text, String subject, int from, int due) {
        Kit kit = new Kit().pattern(0, text).subject(0, subject);
        Edges.due(text + " of " + subject + " from " + from, kit.x.prefix(0, 0, from), due);
    }

    private static void tellsPrefix() {
        Edges.says(23, "How many signs of a SUBJECT from a PLACE on, at most, are the beginning of a text of THE SET of a pattern (any text that goes on so).");
        prefix("abc", "", 0, 0);
        prefix("abc", "x", 0, 0);
        prefix("abc", "abx", 0, 2);
        prefix("abc", "abc", 0, 3);
        prefix("abc", "abcd", 0, 3);
        prefix("abc", "abc", 3, 0);
        prefix("abc", "xabc", 1, 3);
        prefix("a*", "a".repeat(100), 0, 100);
        prefix("a*", "a".repeat(100), 99, 1);
        prefix("", "a", 0, 0);
        prefix("a{20}b|a{5}", "a".repeat(30), 0, 20);
        prefix(".*", "ab", 0, 2);
        prefix("[\\x0000-\\xffff]*", "ab", 1, 1);
        prefix("\\x0000", "\u0000\u0000", 0, 1);
        prefix("\\xffff", "\uffff\uffff", 0, 1);
        String[] sets = {"A", "Z", "a", "z", "[A-C]", "[X-Z]", "[a-c]", "[x-z]", "[@-A]", "[Z-\\[]", "[`-a]", "[z-{]", "[^A]", "[^a-c]"};
        String[] taken = {"Aa", "Zz", "Aa", "Zz", "ABCabc", "XYZxyz", "ABCabc", "XYZxyz", "@Aa", "Zz[", "`Aa", "Zz{", "@BCDXYZ[`bcdxyz{\n", "@DXYZ[`dxyz{\n"};
        for (int i = 0; i < sets.length; i++) {
            for (char c : "@ABCDXYZ[`abcdxyz{\n".toCharArray()) {
                prefix("(%" + sets[i] + ")", String.valueOf(c), 0, taken[i].indexOf(c) < 0 ? 0 : 1);
            }
        }
        prefix("a|b[^\\x0000-\\xffff]", "b", 0, 0);
        Edges.says(23, "NONE: THE SET is empty.");
        prefix("[^\\x0000-\\xffff]", "", 0, NONE);
        prefix("a[^\\x0000-\\xffff]", "a", 0, NONE);
        prefix("[^\\x0000-\\xffff]*", "a", 0, 0);
        Edges.says(23, "UNKNOWN; NO_SUBJECT; OUTSIDE; KIND; LARGE (of the table).");
        Edges.refused("no pattern", UNKNOWN, 2, x -> x.prefix(4, 2, -1));
        for (int slot : NO_SLOTS) {
            Edges.refused("slot " + slot, UNKNOWN, LEFT, x -> x.prefix(slot, 2, -1));
        }
        for (int subject : NO_SUBJECTS) {
            Edges.refused("subject " + subject, UNKNOWN, LEFT, x -> x.prefix(0, subject, -1));
        }
        Edges.refused("no subject", NO_SUBJECT, 2, x -> x.prefix(1, 2, -1));
        for (int from : new int[] {-1, 31, Integer.MIN_VALUE, Integer.MAX_VALUE}) {
            Edges.refused("place " + from, OUTSIDE, LEFT, x -> x.prefix(1, 0, from));
        }
        Edges.refused("of a kind", KIND, LEFT, x -> x.prefix(1, 0, 30));
        Edges.refused("too large", LARGE, LEFT, x -> x.prefix(2, 0, 30));
        prefix("a{20}a{20}a{18}", "a".repeat(60), 0, 58);
        prefix("a{20}a{20}a{19}", "a".repeat(60), 0, LARGE);
    }

    private static void tellsSteps() {
        Edges.says(24, "STEPS of the latest search that was begun (by find() and goOn() together, of all(), replace(), first() the last one): 0 by machines 1, 2, and before any.");
        Edges.due("before any", new PatternWorkshop().steps(), 0);
        Kit kit = new Kit().pattern(0, "ab").pattern(1, "a|b|c|").pattern(2, Edges.SLOW).subject(0, "abab").subject(1, "a".repeat(30));
        kit.x.find(0, 0, 1, 0, 1);
        kit.x.goOn(1);
        Edges.due("together", kit.x.steps(), 2);
        kit.x.goOn(3000);
        Edges.due("together to the end", kit.x.steps(), 3);
        kit.x.all(0, 0, 0);
        Edges.due("of all() the last, that finds none", kit.x.steps(), 1);
        kit.x.replace(1, 0, 0);
        Edges.due("of replace() the last", kit.x.steps(), 4);
        kit.x.first(3, 0, 1, 0);
        Edges.due("of first() the last", kit.x.steps(), 3);
        kit.x.whole(0, 0, 0);
        Edges.due("of whole()", kit.x.steps(), 2);
        kit.x.find(0, 0, 9, 0, 1);
        kit.x.whole(0, 2, 0);
        kit.x.goOn(1);
        kit.x.table(0);
        kit.x.prefix(0, 0, 0);
        Edges.due("after calls without a search", kit.x.steps(), 2);
        for (int machine = 1; machine < 3; machine++) {
            int[] answers = new int[5];
            answers[0] = stepsAfter(kit, kit.x.find(0, 0, 0, machine, 1));
            answers[1] = stepsAfter(kit, kit.x.whole(0, 0, machine));
            answers[2] = stepsAfter(kit, kit.x.all(0, 0, machine));
            answers[3] = stepsAfter(kit, kit.x.replace(0, 0, machine));
            answers[4] = stepsAfter(kit, kit.x.first(1, 0, 0, machine));
            Edges.due("by machine " + machine, answers[0] + answers[1] + answers[2] + answers[3] + answers[4], 0);
        }
        kit.x.first(7, 1, 0, 0);
        Edges.due("of a spent one", kit.x.steps(), 3000);
        kit.x.clear();
        Edges.due("as at first", kit.x.steps(), 0);
    }

    /** The steps of the search that was just made; then those of another one by machine 0. */
    private static int stepsAfter(Kit kit, int answer) {
        int steps = kit.x.steps();
        kit.x.find(0, 0, 0, 0, 3000);
        Edges.due("it was not refused (" + answer + "), and others have steps", answer >= 0 && kit.x.steps() > 0, true);
        return steps;
    }
}
