/** The boundary cases of promises 25 to 32, and of the order of refusals, sentence by sentence. */
public final class SetEdgesTest {
    private static final int NONE = PatternWorkshop.NONE, UNKNOWN = PatternWorkshop.UNKNOWN, OUTSIDE = PatternWorkshop.OUTSIDE;
    private static final int STATE = PatternWorkshop.STATE, KIND = PatternWorkshop.KIND, LARGE = PatternWorkshop.LARGE;
    private static final int SPENT = PatternWorkshop.SPENT, ROOM = PatternWorkshop.ROOM, NO_SUBJECT = PatternWorkshop.NO_SUBJECT;
    private static final int LEFT = Edges.LEFT;
    private static final int[] NO_SLOTS = {-1, 6, Integer.MIN_VALUE, Integer.MAX_VALUE};
    private static final String ANY_SIGN = "[\\x0000-\\xffff]", NO_SIGN = "[^\\x0000-\\xffff]";

    public static void main(String[] args) {
        tellsTables();
        tellsLeast();
        compares();
        parts();
        partsByTheLeast();
        tellsOut();
        tellsFindings();
        leavesFindings();
        tells();
        clears();
        refusesInOrder();
        changesNothing();
        Edges.end("SetEdgesTest", 25, 32);
    }

    private static void states(String text, int table, int least) {
        Kit kit = new Kit().pattern(0, text);
        Edges.due("table and least of " + text, kit.x.table(0) + " " + kit.x.least(0), table + " " + least);
    }

    private static void tellsTables() {
        Edges.says(25, "How many TABLE STATES a pattern has. UNKNOWN; KIND; LARGE.");
        states("", 2, 2);
        states(NO_SIGN, 2, 1);
        states(ANY_SIGN + "*", 2, 1);
        states("a{20}a{20}a{18}", 60, 60);
        states("a{20}a{20}a{19}", LARGE, LARGE);
        states("a{20}a{20}a{20}", LARGE, LARGE);
        states("a{20}a{20}a{20}a", LARGE, LARGE);
        states("(:a|b)*a(:a|b){4}", 34, 33);
        states("(:a|b)*a(:a|b){5}", LARGE, LARGE);
        states("(:a{20}){20}" + "^", KIND, KIND);
        states("(:a?)?", KIND, KIND);
        Edges.refused("no pattern", UNKNOWN, 2, x -> x.table(4));
        Edges.refused("of a kind", KIND, LEFT, x -> x.table(1));
        Edges.refused("too large", LARGE, LEFT, x -> x.table(2));
        for (int slot : NO_SLOTS) {
            Edges.refused("slot " + slot, UNKNOWN, LEFT, x -> x.table(slot));
        }
    }

    private static void tellsLeast() {
        Edges.says(26, "How many states the LEAST table has. UNKNOWN; KIND; LARGE.");
        states(ANY_SIGN + "{20}", 22, 22);
        states(ANY_SIGN + "{20,}", 22, 21);
        states("a" + NO_SIGN + "|" + NO_SIGN, 3, 1);
        states("a" + NO_SIGN + "|", 3, 2);
        states("(:a{20}a{20}a{18})*", 60, 59);
        states("a|b|c|d", 6, 3);
        Edges.refused("no pattern", UNKNOWN, 2, x -> x.least(4));
        Edges.refused("of a kind", KIND, LEFT, x -> x.least(1));
        Edges.refused("too large", LARGE, LEFT, x -> x.least(2));
        for (int slot : NO_SLOTS) {
            Edges.refused("slot " + slot, UNKNOWN, LEFT, x -> x.least(slot));
        }
    }

    private static void compared(String a, String b, int due) {
        Kit kit = new Kit().pattern(0, a).pattern(5, b);
        int turned = due == 1 ? 2 : due == 2 ? 1 : due;
        Edges.due(a + " and " + b, kit.x.compare(0, 5) + " " + kit.x.compare(5, 0) + " " + kit.x.compare(0, 0) + " " + kit.x.compare(5, 5), due + " " + turned + " 3 3");
    }

    private static void compares() {
        Edges.says(27, "How THE SETS of two patterns stand: 3 they are equal, 1 the first one is within the second one, 2 the second within the first, 0 neither.");
        compared("", "", 3);
        compared("", "a", 0);
        compared("", "a?", 1);
        compared(NO_SIGN, "", 1);
        compared(NO_SIGN, NO_SIGN + "a", 3);
        compared(NO_SIGN, ANY_SIGN + "*", 1);
        compared("", ANY_SIGN + "*", 1);
        compared(ANY_SIGN + "*", ANY_SIGN + "+", 2);
        compared(".", ANY_SIGN, 1);
        compared(".|\\x000a", ANY_SIGN, 3);
        compared("[\\x0000-\\xfffe]", ANY_SIGN, 1);
        compared("[\\x0001-\\xffff]", ANY_SIGN, 1);
        compared("a{20}", "a{0,20}", 1);
        compared("a{20}", "a{0,19}", 0);
        compared("a{20,}", "a{19,}", 1);
        compared("(%z)", "[zZ]", 3);
        compared("a{20}a{20}a{18}", "a{20}a{20}a{17}", 0);
        Edges.says(27, "UNKNOWN; KIND; LARGE.");
        Edges.refused("no second", UNKNOWN, 2, x -> x.compare(5, 4));
        Edges.refused("no first", UNKNOWN, 2, x -> x.compare(4, 5));
        Edges.refused("of a kind", KIND, LEFT, x -> x.compare(5, 1));
        Edges.refused("of a kind", KIND, LEFT, x -> x.compare(1, 5));
        Edges.refused("too large", LARGE, LEFT, x -> x.compare(5, 2));
        Edges.refused("too large", LARGE, LEFT, x -> x.compare(2, 5));
        Edges.refused("unknown ahead of kind", UNKNOWN, 2, x -> x.compare(1, 4));
        Edges.refused("kind ahead of large", KIND, LEFT, x -> x.compare(2, 1));
        for (int slot : NO_SLOTS) {
            Edges.refused("slot " + slot, UNKNOWN, LEFT, x -> x.compare(slot, 1));
            Edges.refused("slot " + slot, UNKNOWN, LEFT, x -> x.compare(1, slot));
        }
        Kit kit = new Kit().pattern(0, "a").pattern(1, "a{20}a{20}a{19}");
        Edges.due("a table that is too large", kit.x.compare(0, 1) + " " + kit.x.compare(1, 0) + " " + kit.x.compare(1, 1), LARGE + " " + LARGE + " " + LARGE);
    }

    private static void parted(String a, String b, String due) {
        Kit kit = new Kit().pattern(0, a).pattern(5, b);
        Edges.due(a + " and " + b, kit.x.parting(0, 5) + " " + kit.out(), due.length() + " " + due);
        Edges.due(b + " and " + a, kit.x.parting(5, 0) + " " + kit.out() + " " + kit.x.told(4), due.length() + " " + due + " 0");
    }

    private static void parts() {
        Edges.says(28, "NONE: they are equal (OUT stays). UNKNOWN; KIND; LARGE; ROOM: more than 400.");
        Kit kit = new Kit().pattern(0, "a|b").pattern(1, "[ab]").pattern(2, "").subject(0, "xa");
        kit.x.all(0, 0, 0);
        Edges.due("equal", kit.x.parting(0, 1) + " " + kit.x.parting(1, 1), NONE + " " + NONE);
        Edges.due("OUT stays", kit.numbers() + " " + kit.x.told(4), "1 2 1");
        Edges.due("no signs", kit.x.parting(2, 1) + " " + kit.x.told(3) + " " + kit.x.told(4), "0 0 0");
        Edges.refused("no second", UNKNOWN, 2, x -> x.parting(1, 4));
        Edges.refused("no first", UNKNOWN, 2, x -> x.parting(4, 1));
        Edges.refused("of a kind", KIND, LEFT, x -> x.parting(2, 1));
        Edges.refused("of a kind", KIND, LEFT, x -> x.parting(1, 2));
        Edges.refused("too large", LARGE, LEFT, x -> x.parting(5, 2));
        Edges.refused("too large", LARGE, LEFT, x -> x.parting(2, 5));
        for (int slot : NO_SLOTS) {
            Edges.refused("slot " + slot, UNKNOWN, LEFT, x -> x.parting(slot, 1));
            Edges.refused("slot " + slot, UNKNOWN, LEFT, x -> x.parting(1, slot));
        }
        // The longest there are: rows of 58 and of 57 part at 57 signs, loops of both further on.
        parted("a{20}a{20}a{18}", "a{20}a{20}a{17}", "a".repeat(57));
        parted("(:a{20}a{20}a{18})*", "(:a{20}a{20}a{17})*", "a".repeat(57));
    }

    private static void partsByTheLeast() {
        Edges.says(28, "OUT is the shortest text that is in THE SET of just one of both, the least of several (by signs, the first one that differs): how many signs");
        parted("", "a", "");
        parted(NO_SIGN, "", "");
        parted(NO_SIGN, "b|aa", "b");
        parted(NO_SIGN, "ba|ab", "ab");
        parted("a|c", "b|c", "a");
        parted("ba|ca", "ba|cb", "ca");
        parted("[b-y]", "[a-z]", "a");
        parted("[a-y]", "[a-z]", "z");
        parted(".", ANY_SIGN, "\n");
        parted("[\\x0001-\\xffff]", ANY_SIGN, "\u0000");
        parted("[\\x0000-\\xfffe]", ANY_SIGN, "\uffff");
        parted("x" + ANY_SIGN, NO_SIGN, "x\u0000");
        parted("x[^\\x0000-a]", NO_SIGN, "xb");
        parted("(%q)", "q", "Q");
        parted("(%Q)", "Q", "q");
        parted("a*", "a{0,20}", "a".repeat(21));
        parted("(:aa)*", "(:aaaa)*", "aa");
        parted("z|aaa", "aaa|aaaa", "z");
    }

    private static String out(PatternWorkshop x, int i) {
        try {
            return String.valueOf(x.out(i));
        } catch (ArrayIndexOutOfBoundsException e) {
            return "index";
        }
    }

    private static void tellsOut() {
        Edges.says(29, "Item i of OUT. ArrayIndexOutOfBoundsException.");
        Kit kit = new Kit().pattern(0, "\\w".repeat(33) + "abcd").pattern(1, "x").subject(0, "").subject(1, "\uffff");
        Edges.due("at first", out(kit.x, 0) + " " + out(kit.x, -1), "index index");
        kit.x.print(0);
        Edges.due("of 400", out(kit.x, 0) + " " + out(kit.x, 399) + " " + out(kit.x, 400) + " " + out(kit.x, -1), "91 100 index index");
        Edges.due("far off", out(kit.x, Integer.MAX_VALUE) + " " + out(kit.x, Integer.MIN_VALUE), "index index");
        kit.x.replace(1, 1, 0);
        Edges.due("a great sign, and no more of what was", out(kit.x, 0) + " " + out(kit.x, 1), "65535 index");
        kit.x.all(1, 0, 0);
        Edges.due("no numbers", out(kit.x, 0), "index");
        Edges.refused("out beyond", 0, LEFT, x -> out(x, 400).equals("index") ? 0 : 1);
        Edges.refused("out ahead", 0, LEFT, x -> out(x, -1).equals("index") ? 0 : 1);
    }

    private static void tellsFindings() {
        Edges.says(30, "What the host refused in the latest call that was refused for it: 1 an index, 2 nothing there, 3 another kind, 4 copying beyond; 0 before one.");
        Kit kit = new Kit().pattern(0, "[a]").pattern(1, "\\w".repeat(40)).pattern(2, "a").subject(1, "a".repeat(100));
        kit.x.clear();
        Edges.due("before one", new PatternWorkshop().finding() + " " + kit.x.finding(), "0 0");
        kit = new Kit().pattern(0, "[a]").pattern(1, "\\w".repeat(40)).pattern(2, "a").subject(1, "a".repeat(100));
        int[] due = {1, 3, 2, 3, 4, 2, 1, 4, 2};
        for (int i = 0; i < due.length; i++) {
            refuse(kit, i);
            Edges.due("call " + i, kit.x.finding(), due[i]);
            Edges.due("asked again", kit.x.finding(), due[i]);
        }
    }

    private static int refuse(Kit kit, int call) {
        switch (call) {
            case 0: return kit.x.part(0, 0, 1, true);
            case 1: return kit.x.node(0, 0, 10);
            case 2: return kit.x.drop(0);
            case 3: return kit.x.part(2, 0, 0, true);
            case 4: return kit.x.print(1);
            case 5: return kit.x.print(3);
            case 6: return kit.x.find(2, 1, 0, 0, 9) + kit.x.span(1, true);
            case 7: return kit.feed("12345").x.replace(2, 1, 0);
            default: return kit.x.find(2, 0, 0, 0, 9);
        }
    }

    private static void leavesFindings() {
        Edges.says(30, "(NO_SUBJECT, and UNKNOWN where a slot has no pattern: 2; KIND of node(), part(): 3; ROOM of print(), replace(), parting(): 4; where told: 1; other refusals, and what sign(), out() throw, leave it.)");
        Kit kit = new Kit().pattern(0, "a").feed("a".repeat(196)).subject(0, "a".repeat(97));
        kit.x.node(0, 0, 11);
        Edges.due("room of feed and put", kit.x.feed(5, 0x6161616161L) + " " + kit.x.put(0, 4, 0) + " " + kit.x.finding(), ROOM + " " + ROOM + " 3");
        Edges.refused("kind of find", KIND, LEFT, x -> x.find(1, 0, 0, 1, 1));
        Edges.refused("kind of table", KIND, LEFT, x -> x.table(1));
        Edges.refused("large of least", LARGE, LEFT, x -> x.least(2));
        Edges.refused("outside of node", OUTSIDE, LEFT, x -> x.node(0, 6, 0));
        Edges.refused("outside of told", OUTSIDE, LEFT, x -> x.told(7));
        Edges.refused("no such slot", UNKNOWN, LEFT, x -> x.find(6, 0, 0, 0, 1));
        Edges.refused("no such subject", UNKNOWN, LEFT, x -> x.find(0, 4, 0, 0, 1));
        Edges.due("unknown of span", new PatternWorkshop().span(0, true) + new PatternWorkshop().finding(), UNKNOWN);
        Edges.refusedLate("spent", SPENT, LEFT, 3000, x -> x.find(3, 0, 0, 0, 3000));
        for (int call = 0; call < 12; call++) {
            int one = call;
            Edges.refused("no subject, call " + call, NO_SUBJECT, 2, x -> withoutSubject(x, one % 6));
            Edges.refused("no pattern, call " + call, UNKNOWN, 2, x -> withoutPattern(x, one));
        }
    }

    private static int withoutSubject(PatternWorkshop x, int call) {
        switch (call) {
            case 0: return x.drop(2);
            case 1: return x.find(0, 2, 0, 0, 1);
            case 2: return x.whole(0, 2, 0);
            case 3: return x.all(0, 2, 0);
            case 4: return x.replace(0, 2, 0);
            default: return x.first(1, 2, 0, 0) == x.prefix(0, 3, 0) ? NO_SUBJECT : 0;
        }
    }

    private static int withoutPattern(PatternWorkshop x, int call) {
        switch (call) {
            case 0: return x.find(4, 0, 0, 0, 1);
            case 1: return x.whole(4, 0, 0);
            case 2: return x.all(4, 0, 0);
            case 3: return x.replace(4, 0, 0);
            case 4: return x.first(17, 0, 0, 0);
            case 5: return x.prefix(4, 0, 0);
            case 6: return x.forget(4);
            case 7: return x.named(4, 97);
            case 8: return x.node(4, 0, 0);
            case 9: return x.begins(4, 0);
            case 10: return x.compare(0, 4);
            default: return x.parting(4, 0);
        }
    }

    private static void tells() {
        Edges.says(31, "How many: 0 signs on THE TAPE, 1 patterns, 2 SUBJECTS that are there, 3 items of OUT, 4 whether OUT is a row of numbers, 5 captures of the pattern of the latest span that there is (0 without), 6 whether a search can go on. OUTSIDE.");
        for (int what : new int[] {-1, 7, Integer.MIN_VALUE, Integer.MAX_VALUE}) {
            Edges.refused("told(" + what + ")", OUTSIDE, LEFT, x -> x.told(what));
        }
        Kit kit = Edges.rich();
        int[] due = {4, 5, 2, 9, 0, 2, 1};
        for (int what = 0; what < due.length; what++) {
            Edges.due("told(" + what + ")", kit.x.told(what), due[what]);
        }
        kit = new Kit().feed("a".repeat(200));
        Edges.due("200 signs", kit.x.told(0), 200);
        kit.x.pattern(0);
        Edges.due("none", kit.x.told(0) + " " + kit.x.told(1), "0 0");
        kit.pattern(0, "()".repeat(9)).pattern(1, "a").pattern(2, "x").pattern(3, "").subject(0, "a".repeat(100));
        kit.x.find(1, 0, 0, 0, 1);
        Edges.due("no captures", kit.x.told(5), 0);
        kit.x.find(0, 0, 0, 0, 1);
        Edges.due("nine captures", kit.x.told(5), 9);
        kit.x.forget(0);
        Edges.due("of what is forgotten", kit.x.told(5), 9);
        kit.x.find(2, 0, 99, 0, 1);
        Edges.due("still, as it can go on", kit.x.told(5) + " " + kit.x.told(6), "9 1");
        kit.x.goOn(1);
        Edges.due("without", kit.x.told(5) + " " + kit.x.told(6), "0 0");
        kit.x.all(3, 0, 1);
        Edges.due("202 numbers", kit.x.told(3) + " " + kit.x.told(4), "202 1");
        kit.x.all(2, 0, 1);
        Edges.due("no numbers", kit.x.told(3) + " " + kit.x.told(4), "0 1");
        kit.x.print(3);
        Edges.due("no signs", kit.x.told(3) + " " + kit.x.told(4), "0 0");
    }

    private static void clears() {
        Edges.says(32, "All is as at first: how many patterns there were.");
        Edges.due("of a new one", new PatternWorkshop().clear(), 0);
        Kit kit = Edges.rich();
        kit.x.drop(3);
        Edges.due("of a full one", kit.x.clear(), 5);
        for (int what = 0; what <= 6; what++) {
            Edges.due("told(" + what + ")", kit.x.told(what), 0);
        }
        Edges.due("finding, steps, place", kit.x.finding() + " " + kit.x.steps() + " " + kit.x.place(), "0 0 " + NONE);
        Edges.due("goOn, span", kit.x.goOn(1) + " " + kit.x.span(0, true), STATE + " " + UNKNOWN);
        Edges.due("out", out(kit.x, 0), "index");
        for (int slot = 0; slot < 6; slot++) {
            Edges.due("slot " + slot, kit.x.node(slot, 0, 0), UNKNOWN);
        }
        for (int subject = 0; subject < 4; subject++) {
            Edges.due("subject " + subject, kit.x.drop(subject) + " " + kit.x.put(subject, 1, 97), NO_SUBJECT + " 1");
        }
        for (int slot = 0; slot < 6; slot++) {
            kit.pattern(slot, "a");
        }
        Edges.due("of six, and once more", kit.x.clear() + " " + kit.x.clear(), "6 0");
    }

    private static void refusesInOrder() {
        Edges.says("Calls answer, the first of these that fits: UNKNOWN (no such pattern slot, SUBJECT, capture, or nothing there), NO_SUBJECT, OUTSIDE (another number is not as told), STATE (as told), KIND, LARGE, SPENT, ROOM;");
        // Slot 4 has none, slot 1 is of a kind, slot 2 too large, slot 3 spent; subject 2 is none.
        Edges.refused("unknown, no subject, outside", UNKNOWN, 2, x -> x.find(4, 2, -1, 3, 0));
        Edges.refused("unknown subject, outside", UNKNOWN, LEFT, x -> x.find(0, 4, -1, 3, 0));
        Edges.refused("no subject, outside, kind", NO_SUBJECT, 2, x -> x.find(1, 2, -1, 1, 0));
        Edges.refused("outside, kind", OUTSIDE, LEFT, x -> x.find(1, 0, -1, 1, 0));
        Edges.refused("outside, spent", OUTSIDE, LEFT, x -> x.find(3, 0, 0, 0, 3001));
        Edges.refused("outside, state", OUTSIDE, LEFT, x -> x.replace(5, 0, 3));
        Edges.refused("state, kind", STATE, LEFT, x -> x.replace(1, 0, 1));
        Edges.refused("state, large", STATE, LEFT, x -> x.replace(2, 0, 1));
        Edges.refused("state, spent", STATE, LEFT, x -> x.replace(3, 0, 0));
        Edges.refused("outside, kind of node", OUTSIDE, LEFT, x -> x.node(0, 6, 10));
        Edges.refused("kind, outside of part", KIND, 3, x -> x.part(0, 0, -1, true));
        Kit kit = new Kit().pattern(0, "(:(=a){20}){20}").pattern(1, "(:^{20}){20}").subject(0, "");
        Edges.due("kind, large", kit.x.find(0, 0, 0, 1, 1) + " " + kit.x.find(0, 0, 0, 2, 1) + " " + kit.x.find(1, 0, 0, 1, 1) + " " + kit.x.find(1, 0, 0, 2, 1), KIND + " " + KIND + " " + LARGE + " " + KIND);
        kit = new Kit().pattern(0, "b|" + Edges.SLOW).subject(0, "b".repeat(60) + "a".repeat(40)).feed("12345678");
        Edges.due("spent, room", kit.x.replace(0, 0, 0) + " " + kit.x.replace(0, 0, 1), SPENT + " " + ROOM);
    }

    private static void changesNothing() {
        Edges.says("then nothing changes but what finding(), steps() tell, and that by SPENT no search can go on.");
        Edges.refused("unknown", UNKNOWN, LEFT, x -> x.whole(6, 0, 0));
        Edges.refused("no subject", NO_SUBJECT, 2, x -> x.whole(0, 2, 0));
        Edges.refused("outside", OUTSIDE, LEFT, x -> x.whole(0, 0, 3));
        Edges.refused("state", STATE, LEFT, x -> x.replace(5, 0, 0));
        Edges.refused("kind", KIND, LEFT, x -> x.whole(1, 0, 1));
        Edges.refused("large", LARGE, LEFT, x -> x.whole(2, 0, 2));
        Edges.refusedLate("spent", SPENT, LEFT, 3000, x -> x.whole(3, 0, 0));
        Kit kit = Edges.rich();
        kit.pattern(4, "\\w".repeat(40));
        String was = Edges.rest(kit) + kit.x.steps() + kit.x.told(6);
        Edges.due("room of print", kit.x.print(4) + " " + Edges.rest(kit) + kit.x.steps() + kit.x.told(6), ROOM + " " + was);
    }
}
