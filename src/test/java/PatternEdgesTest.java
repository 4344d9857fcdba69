/** The boundary cases of promises 1 to 11, sentence by sentence. */
public final class PatternEdgesTest {
    private static final int NONE = PatternWorkshop.NONE, UNKNOWN = PatternWorkshop.UNKNOWN, OUTSIDE = PatternWorkshop.OUTSIDE;
    private static final int STATE = PatternWorkshop.STATE, KIND = PatternWorkshop.KIND, ROOM = PatternWorkshop.ROOM, MORE = PatternWorkshop.MORE;
    private static final int LEFT = Edges.LEFT;
    private static final int[] NO_SLOTS = {-1, 6, Integer.MIN_VALUE, Integer.MAX_VALUE};

    public static void main(String[] args) {
        isNew();
        feeds();
        refusesToFeed();
        readsPatterns();
        readsEachAnew();
        endsSearches();
        tellsPlaces();
        forgets();
        tellsNodes();
        refusesNodes();
        tellsParts();
        prints();
        tellsBeginnings();
        tellsRisky();
        tellsDead();
        Edges.end("PatternEdgesTest", 1, 11);
    }

    private static void isNew() {
        Edges.says(1, "An empty TAPE, no patterns, no SUBJECTS; OUT is a row of no signs.");
        PatternWorkshop x = new PatternWorkshop();
        for (int what = 0; what <= 6; what++) {
            Edges.due("told(" + what + ")", x.told(what), 0);
        }
        Edges.due("place(), steps(), finding()", x.place() + " " + x.steps() + " " + x.finding(), NONE + " 0 0");
        Edges.due("goOn(1), span(0, false)", x.goOn(1) + " " + x.span(0, false), STATE + " " + UNKNOWN);
        Edges.due("an empty tape is a text", x.pattern(0) + " " + x.node(0, 0, 0) + " " + x.node(0, 0, 1), "1 5 0");
    }

    private static void feeds() {
        Edges.says(2, "The n lowest bytes of w, the highest first, come behind THE TAPE: how many it has.");
        for (int n = 1; n <= 8; n++) {
            Kit kit = new Kit();
            // What stands above the n lowest bytes is no byte of a tape.
            long w = n == 8 ? 0x6162636465666768L : -1L << 8 * n | 0x6162636465666768L & (1L << 8 * n) - 1;
            Edges.due("feed of " + n, kit.x.feed(n, w), n);
            kit.x.pattern(0);
            kit.x.print(0);
            Edges.due("in order", kit.out(), "abcdefgh".substring(8 - n));
        }
        Kit kit = new Kit();
        Edges.due("one behind the other", kit.x.feed(1, 'b') + " " + kit.x.feed(2, 0x6163) + " " + kit.x.feed(1, 'b'), "1 3 4");
        kit.x.pattern(0);
        kit.x.print(0);
        Edges.due("in order", kit.out(), "bacb");
    }

    private static void refusesToFeed() {
        Edges.says(2, "OUTSIDE: n is not 1 to 8, a byte not 32 to 126. ROOM.");
        for (int n : new int[] {0, 9, -1, 16, Integer.MIN_VALUE, Integer.MAX_VALUE}) {
            Edges.refused("feed of " + n, OUTSIDE, LEFT, x -> x.feed(n, 0x6161616161616161L));
        }
        for (int n = 1; n <= 8; n++) {
            int bytes = n;
            for (int i = 0; i < n; i++) {
                for (long c : new long[] {0, 31, 127, 128, 255}) {
                    long w = 0x6161616161616161L & ~(255L << 8 * i) | c << 8 * i;
                    Edges.due("byte " + i + " is " + c, new PatternWorkshop().feed(bytes, w), OUTSIDE);
                }
            }
        }
        Edges.refused("a wrong byte", OUTSIDE, LEFT, x -> x.feed(8, 0x6161611f61616161L));
        for (int n = 1; n <= 8; n++) {
            Kit kit = new Kit().feed("a".repeat(200 - n));
            Edges.due("up to 200 by " + n, kit.x.feed(n, 0x6161616161616161L), 200);
            kit = new Kit().feed("a".repeat(201 - n));
            Edges.due("beyond 200 by " + n, kit.x.feed(n, 0x6161616161616161L) + " " + kit.x.told(0) + " " + kit.x.finding(), ROOM + " " + (201 - n) + " 0");
            Edges.due("outside is told ahead of it", kit.x.feed(n, 0) + " " + kit.x.feed(9, 0), OUTSIDE + " " + OUTSIDE);
        }
    }

    private static void readsPatterns() {
        Edges.says(3, "THE TAPE, which is empty then, is the text of a pattern for a slot, in place of what was there: how many NODES; -20 less the FAULT (the slot stays).");
        Kit kit = new Kit();
        Edges.due("no signs", kit.x.pattern(0) + " " + kit.x.told(0) + " " + kit.x.told(1), "1 0 1");
        Edges.due("200 signs", kit.read(5, "|".repeat(200)) + " " + kit.x.told(0), "202 0");
        Edges.due("in place of what was there", kit.read(5, "abc") + " " + kit.x.node(5, 4, 0) + " " + kit.x.told(1), "4 " + OUTSIDE + " 2");
        String[] texts = {")", "()".repeat(10), "a{21}"};
        for (int fault = 1; fault <= 3; fault++) {
            Edges.due("a fault", kit.read(5, texts[fault - 1]) + " " + kit.x.told(0), -20 - fault + " 0");
            kit.x.print(5);
            Edges.due("the slot stays", kit.out() + " " + kit.x.told(1), "abc 2");
            Edges.due("an empty slot stays so", kit.read(3, texts[fault - 1]) + " " + kit.x.node(3, 0, 0), -20 - fault + " " + UNKNOWN);
        }
        Edges.says(3, "UNKNOWN (THE TAPE stays).");
        for (int slot : NO_SLOTS) {
            Edges.refused("pattern(" + slot + ")", UNKNOWN, LEFT, x -> x.pattern(slot));
        }
    }

    private static void readsEachAnew() {
        Edges.says(3, "in place of what was there");
        Kit kit = new Kit();
        String[] texts = {"(:(a", "(@qa)\\@q", "(@qb)", "\\@q", "(a)", "\\1", "abc|d", "a(:b|c)", "x"};
        String[] due = {"-21 at 4", "4 at -1", "2 at -1", "-23 at 2", "2 at -1", "-23 at 1", "6 at -1", "5 at -1", "1 at -1"};
        for (int turn = 0; turn < 3; turn++) {
            for (int i = 0; i < texts.length; i++) {
                Edges.due(texts[i] + " behind others", kit.read(turn, texts[i]) + " at " + kit.x.place(), due[i]);
            }
        }
        kit.pattern(0, "abc|d").pattern(1, "a").pattern(0, "a(:b|c|d)");
        Edges.due("parts of nodes", kit.x.node(0, 0, 1) + " " + kit.x.node(0, 1, 1) + " " + kit.x.node(0, 2, 1) + " " + kit.x.node(1, 0, 1), "2 0 3 0");
        kit = new Kit();
        for (int i = 0; i < 100; i++) {
            kit.pattern(0, "\\w\\w\\w\\w");
        }
        kit.pattern(1, "[a-cx]");
        Edges.due("sets", kit.x.part(0, 4, 3, true) + " " + kit.x.part(0, 1, 0, false) + " " + kit.x.part(1, 0, 1, true) + " " + kit.x.part(1, 0, 0, true), "122 48 120 99");
    }

    private static void endsSearches() {
        Edges.says(3, "A search that could go on with that slot is no more, if it is another one then.");
        Kit kit = Edges.rich();
        Edges.due("it can go on", kit.x.told(6), 1);
        kit.x.pattern(1);
        Edges.due("after another slot's", kit.x.told(6), 1);
        kit.read(0, "a)");
        Edges.due("after a fault", kit.x.told(6) + " " + kit.x.goOn(1), "1 " + MORE);
        kit.read(0, "x");
        Edges.due("after that slot's", kit.x.told(6) + " " + kit.x.goOn(1), "0 " + STATE);
        Edges.due("what was found stays", kit.spans(), "2-3 2-3 .");
    }

    private static void tellsPlaces() {
        Edges.says(4, "Where the FAULT of the latest pattern() was; NONE: it had none, or there was none.");
        Kit kit = new Kit();
        Edges.due("there was none", kit.x.place(), NONE);
        kit.read(0, ")");
        Edges.due("the first place", kit.x.place(), 0);
        kit.read(1, "|".repeat(199) + "(");
        Edges.due("the last place", kit.x.place(), 200);
        kit.x.pattern(6);
        kit.x.forget(1);
        Edges.due("after calls that are refused", kit.x.place(), 200);
        kit.read(0, "a");
        Edges.due("it had none", kit.x.place(), NONE);
        kit.read(0, "a{21}");
        Edges.due("of the latest", kit.x.place(), 2);
        kit.x.clear();
        Edges.due("as at first", kit.x.place(), NONE);
    }

    private static void forgets() {
        Edges.says(5, "A slot has no pattern: 1. UNKNOWN. A search that could go on with it is no more.");
        Edges.refused("forget of none", UNKNOWN, 2, x -> x.forget(4));
        for (int slot : NO_SLOTS) {
            Edges.refused("forget(" + slot + ")", UNKNOWN, LEFT, x -> x.forget(slot));
        }
        Kit kit = Edges.rich();
        Edges.due("another one", kit.x.forget(1) + " " + kit.x.told(1) + " " + kit.x.told(6), "1 4 1");
        Edges.due("its own", kit.x.forget(0) + " " + kit.x.told(1) + " " + kit.x.told(6) + " " + kit.x.goOn(1), "1 3 0 " + STATE);
        Edges.due("what was found stays", kit.spans(), "2-3 2-3 .");
        Edges.due("once more", kit.x.forget(0), UNKNOWN);
        Edges.due("a pattern anew", kit.read(0, ""), 3 + 2);
    }

    private static void tellsNodes() {
        Edges.says(6, "1 how many parts (of a SET PARTS), 2 the NODE that holds it (NONE)");
        Kit kit = new Kit().pattern(0, "[ax-z]|").pattern(1, "|".repeat(200));
        Edges.due("parts", kit.x.node(0, 0, 1) + " " + kit.x.node(0, 1, 1) + " " + kit.x.node(0, 2, 1) + " " + kit.x.node(1, 0, 1), "2 2 0 201");
        Edges.due("holders", kit.x.node(0, 0, 2) + " " + kit.x.node(0, 1, 2) + " " + kit.x.node(1, 201, 2), NONE + " 0 0");
        Edges.says(6, "3 SIZE (20000 at most), 4 POSITIONS (20000 at most)");
        String[] texts = {"(:(:(:a{20}){20}){20}){2}", "(:(:(:a{20}){20}){20}){3}", "(:(:(:(:a{20}){20}){20}){20}){20}", "(:(:(:a{20}){19}){20}){2}"};
        String[] due = {"16843 16000", "20000 20000", "20000 20000", "16003 15200"};
        for (int i = 0; i < texts.length; i++) {
            kit.pattern(0, texts[i]);
            Edges.due(texts[i], kit.x.node(0, 0, 3) + " " + kit.x.node(0, 0, 4), due[i]);
        }
        // 20 times 20 times 49 and their loops are 20021 of size, but 19600 positions.
        kit.pattern(0, "(:(:" + "a".repeat(49) + "){20}){20}");
        Edges.due("size alone", kit.x.node(0, 0, 3) + " " + kit.x.node(0, 0, 4), "20000 19600");
        kit.pattern(0, "(:(:" + "a".repeat(48) + "){20}){20}");
        Edges.due("neither", kit.x.node(0, 0, 3) + " " + kit.x.node(0, 0, 4), "19621 19200");
        Edges.says(6, "5 whether it MAY BE EMPTY, 6 whether it is within CASE (itself not)");
        kit.pattern(0, "(%a?(%(b)))a");
        int[] within = {0, 0, 1, 1, 1, 1, 1, 1, 0};
        int[] empty = {0, 0, 0, 1, 0, 0, 0, 0, 0};
        for (int k = 0; k < within.length; k++) {
            Edges.due("node " + k, kit.x.node(0, k, 6) + " " + kit.x.node(0, k, 5), within[k] + " " + empty[k]);
        }
        Edges.says(6, "10 of a SIGN its sign, 11 whether a SET is turned, 12 which EDGE, 13 which capture of a BACK, 14 of a CAPTURE, 15 which LOOK, 16 least, 17 most (NONE), 18 MANNER of a LOOP.");
        kit.pattern(0, "()".repeat(8) + "(\\9)\\x0000\\xffff[a][^a]\\B(~){20,}+a{0,20}");
        int[][] asked = {{17, 14, 9}, {18, 13, 9}, {19, 10, 0}, {20, 10, 65535}, {21, 11, 0}, {22, 11, 1}, {23, 12, 3}, {24, 16, 20}, {24, 17, NONE}, {24, 18, 2}, {25, 15, 3}, {27, 16, 0}, {27, 17, 20}, {27, 18, 0}};
        for (int[] a : asked) {
            Edges.due("node " + a[0] + " what " + a[1], kit.x.node(0, a[0], a[1]), a[2]);
        }
    }

    private static void refusesNodes() {
        Edges.says(6, "UNKNOWN: the slot; OUTSIDE: no such NODE, what; KIND: 10 to 18 of another SORT (a finding: 3).");
        Edges.refused("node of no pattern", UNKNOWN, 2, x -> x.node(4, -1, -1));
        for (int slot : NO_SLOTS) {
            Edges.refused("node of slot " + slot, UNKNOWN, LEFT, x -> x.node(slot, 0, 0));
        }
        for (int k : new int[] {-1, 6, Integer.MIN_VALUE, Integer.MAX_VALUE}) {
            Edges.refused("node " + k, OUTSIDE, LEFT, x -> x.node(0, k, 10));
        }
        Edges.refused("the last node is there", 0, LEFT, x -> x.node(0, 5, 0));
        for (int what : new int[] {-1, 7, 8, 9, 19, Integer.MIN_VALUE, Integer.MAX_VALUE}) {
            Edges.refused("what " + what, OUTSIDE, LEFT, x -> x.node(0, 0, what));
        }
        // One node of each sort, by its number; none tells but what is its own.
        Kit kit = new Kit().pattern(0, "()a.[b]^\\1(c|dd)*(=e)(*f)(%g)");
        int[] nodes = {3, 4, 5, 6, 7, 0, 10, 8, 9, 15, 17, 19};
        int[] own = {10, -1, 11, 12, 13, -1, -1, 16, 14, 15, -1, -1};
        for (int sort = 0; sort < nodes.length; sort++) {
            Edges.due("its sort", kit.x.node(0, nodes[sort], 0), sort);
            for (int what = 10; what <= 18; what++) {
                boolean tells = what == own[sort] || sort == 7 && what > 15;
                kit.x.drop(0);
                int answer = kit.x.node(0, nodes[sort], what);
                Edges.due("what " + what + " of sort " + sort, answer == KIND ? "KIND " + kit.x.finding() : "told " + kit.x.finding(), tells ? "told 2" : "KIND 3");
            }
        }
    }

    private static void tellsParts() {
        Edges.says(7, "PART i of a SET: its begin (end = false) or end. UNKNOWN; OUTSIDE: NODE; KIND (a finding: 3); OUTSIDE: i (a finding: 1).");
        Kit kit = new Kit().pattern(0, "[\\x0000a-c\\xffff]");
        Edges.due("the first", kit.x.part(0, 0, 0, false) + " " + kit.x.part(0, 0, 0, true), "0 0");
        Edges.due("one between", kit.x.part(0, 0, 1, false) + " " + kit.x.part(0, 0, 1, true), "97 99");
        Edges.due("the last", kit.x.part(0, 0, 2, false) + " " + kit.x.part(0, 0, 2, true), "65535 65535");
        Edges.due("none further", kit.x.part(0, 0, 3, false), OUTSIDE);
        Edges.refused("part of no pattern", UNKNOWN, 2, x -> x.part(4, -1, -1, true));
        for (int slot : NO_SLOTS) {
            Edges.refused("part of slot " + slot, UNKNOWN, LEFT, x -> x.part(slot, -1, -1, true));
        }
        for (int k : new int[] {-1, 1, Integer.MIN_VALUE, Integer.MAX_VALUE}) {
            Edges.refused("part of node " + k, OUTSIDE, LEFT, x -> x.part(5, k, 0, true));
        }
        Edges.refused("part of no set", KIND, 3, x -> x.part(0, 0, 0, true));
        Edges.refused("part -1 of no set", KIND, 3, x -> x.part(0, 0, -1, true));
        for (int i : new int[] {-1, 1, Integer.MIN_VALUE, Integer.MAX_VALUE}) {
            Edges.refused("part " + i, OUTSIDE, 1, x -> x.part(5, 0, i, false));
            Edges.refused("part " + i, OUTSIDE, 1, x -> x.part(5, 0, i, true));
        }
    }

    private static void prints() {
        Edges.says(8, "OUT is the pattern PRINTED: how many signs. UNKNOWN. ROOM: more than 400.");
        Kit kit = new Kit().pattern(0, "").pattern(1, "\\w".repeat(33) + "abcd").pattern(2, "\\w".repeat(33) + "abcde").pattern(3, "\\w".repeat(100)).pattern(4, "b").subject(0, "ab");
        kit.x.all(4, 0, 0);
        Edges.due("no signs", kit.x.print(0) + " " + kit.x.told(3) + " " + kit.x.told(4), "0 0 0");
        Edges.due("400", kit.x.print(1) + " " + kit.x.told(3) + " " + kit.x.out(399), "400 400 100");
        kit.x.all(4, 0, 0);
        Edges.due("401", kit.x.print(2) + " " + kit.x.finding(), ROOM + " 4");
        Edges.due("1200", kit.x.print(3) + " " + kit.x.finding(), ROOM + " 4");
        Edges.due("OUT stays", kit.numbers() + " " + kit.x.told(4), "1 2 1");
        Edges.refused("print of no pattern", UNKNOWN, 2, x -> x.print(4));
        for (int slot : NO_SLOTS) {
            Edges.refused("print of slot " + slot, UNKNOWN, LEFT, x -> x.print(slot));
        }
    }

    private static void tellsBeginnings() {
        Edges.says(9, "Whether c is a BEGINNING sign of a pattern's NODE 0: 1, 0. UNKNOWN; OUTSIDE: c.");
        Kit kit = new Kit().pattern(0, "[\\x0000\\xffff]").pattern(1, "[\\x0001-\\xfffe]b");
        Edges.due("0", kit.x.begins(0, 0) + " " + kit.x.begins(1, 0), "1 0");
        Edges.due("1", kit.x.begins(0, 1) + " " + kit.x.begins(1, 1), "0 1");
        Edges.due("65534", kit.x.begins(0, 65534) + " " + kit.x.begins(1, 65534), "0 1");
        Edges.due("65535", kit.x.begins(0, 65535) + " " + kit.x.begins(1, 65535), "1 0");
        for (int c : new int[] {-1, 65536, Integer.MIN_VALUE, Integer.MAX_VALUE}) {
            Edges.refused("begins with " + c, OUTSIDE, LEFT, x -> x.begins(0, c));
            Edges.refused("begins of no pattern with " + c, UNKNOWN, 2, x -> x.begins(4, c));
        }
        for (int slot : NO_SLOTS) {
            Edges.refused("begins of slot " + slot, UNKNOWN, LEFT, x -> x.begins(slot, 0));
        }
    }

    private static void risky(String text, int due) {
        Edges.due(text, new Kit().pattern(0, text).x.risky(0), due);
    }

    private static void tellsRisky() {
        Edges.says(10, "The first NODE that is RISKY: a LOOP without most, in whose node a LOOP without most stands (at any depth), both of whose nodes have a BEGINNING sign in common; NONE. UNKNOWN.");
        risky("", NONE);
        risky("a*", NONE);
        risky("(:a*)*", 0);
        risky("(:a*){0,20}", NONE);
        risky("(:a{0,20})*", NONE);
        risky("(:a{20,}){20,}", 0);
        risky("((((((((a*))))))))*", 0);
        risky("a*a*", NONE);
        risky("(:a*b)*(:a*)*", 1);
        risky("(:ba*)*(:a*)*", 6);
        risky("(:b(:a*)*)*", 3);
        risky("(:b(:a*)*|a)*", 0);
        risky("(:ab*)*", NONE);
        risky("(:ab*|b)*", 0);
        risky("(:[a-f][f-k]*)*", 0);
        risky("(:[a-e][f-k]*)*", NONE);
        risky("(:.\\x000a*)*", NONE);
        risky("(:.[\\x000a\\x000b]*)*", 0);
        risky("(:[^b]b*)*", NONE);
        risky("(:[\\x0000-\\xfffe]\\xffff*)*", NONE);
        risky("(:[\\x0000-\\xffff]\\xffff*)*", 0);
        risky("(:aA*)*", NONE);
        risky("(%(:aA*)*)", 1);
        risky("(:a{0}b*|a*)*", 0);
        risky("(:\\x0000*)*", 0);
        risky("(:\\xffff*)*", 0);
        risky("(:^*)*", NONE);
        risky("(:(:(=a))*a)*", NONE);
        Edges.refused("risky of no pattern", UNKNOWN, 2, x -> x.risky(4));
        for (int slot : NO_SLOTS) {
            Edges.refused("risky of slot " + slot, UNKNOWN, LEFT, x -> x.risky(slot));
        }
    }

    private static void tellsDead() {
        Edges.says(11, "The k-th NODE (from 0) that is a row of a CHOICE and, each printed by itself, prints as an earlier row of that CHOICE does; NONE. UNKNOWN; OUTSIDE: k is below 0.");
        Kit kit = new Kit().pattern(0, "a|b|a|a").pattern(1, "|".repeat(200)).pattern(2, "(\\:a|:a)").pattern(3, "(:a|b)(:a|b)");
        Edges.due("of four rows", kit.x.dead(0, 0) + " " + kit.x.dead(0, 1) + " " + kit.x.dead(0, 2), "3 4 " + NONE);
        Edges.due("of 201 rows", kit.x.dead(1, 0) + " " + kit.x.dead(1, 199) + " " + kit.x.dead(1, 200), "2 201 " + NONE);
        Edges.due("each by itself", kit.x.dead(2, 0) + " " + kit.x.dead(2, 1), "5 " + NONE);
        Edges.due("of that choice", kit.x.dead(3, 0), NONE);
        Edges.due("far off", kit.x.dead(0, Integer.MAX_VALUE), NONE);
        for (int k : new int[] {-1, Integer.MIN_VALUE}) {
            Edges.refused("dead " + k, OUTSIDE, LEFT, x -> x.dead(0, k));
            Edges.refused("dead " + k + " of no pattern", UNKNOWN, 2, x -> x.dead(4, k));
        }
        for (int slot : NO_SLOTS) {
            Edges.refused("dead of slot " + slot, UNKNOWN, LEFT, x -> x.dead(slot, 0));
        }
    }
}
