/** The boundary cases that the document's terms name, sentence by sentence: ways, machines, tables. */
public final class WayEdgesTest {
    private static final int NONE = PatternWorkshop.NONE, OUTSIDE = PatternWorkshop.OUTSIDE, KIND = PatternWorkshop.KIND;
    private static final int LARGE = PatternWorkshop.LARGE, SPENT = PatternWorkshop.SPENT, MORE = PatternWorkshop.MORE;
    // 3000 turns of nothing: 10 of 20 of 13 and themselves, and nine times 20.
    private static final String TURNS = "(:(:(:){13}){20}){10}" + "(:){20}".repeat(9);

    public static void main(String[] args) {
        hasPlaces();
        leavesCaptures();
        takesSigns();
        foldsCases();
        asksEdges();
        goesBackTo();
        goesThroughRows();
        loopsBelowTheLeast();
        loopsAboveTheLeast();
        cuts();
        looks();
        countsSteps();
        findsFromPlaces();
        isSpentByTheNext();
        keepsManyChoices();
        refusesKinds();
        refusesTheLarge();
        measures();
        tellsWhatMayBeEmpty();
        tellsBeginnings();
        makesTables();
        Edges.end("WayEdgesTest", 1, 0);
    }

    private static String found(String text, String subject, int from, int machine) {
        Kit kit = new Kit().pattern(0, text).subject(0, subject);
        int answer = kit.x.find(0, 0, from, machine, 3000);
        return answer == 1 ? kit.spans() : String.valueOf(answer);
    }

    /** What a machine finds from a place on: all machines, if they take the pattern. */
    private static void finds(String text, String subject, int from, String due) {
        for (int machine = 0; machine < 3; machine++) {
            String got = found(text, subject, from, machine);
            if (machine == 0 || !got.equals(String.valueOf(KIND))) {
                Edges.due(text + " in " + subject + " from " + from + " by " + machine, got, due);
            }
        }
    }

    private static void finds(String text, String subject, String due) {
        finds(text, subject, 0, due);
    }

    private static void hasPlaces() {
        Edges.says("a PLACE of a SUBJECT (0 to n, n being how many signs it has)");
        finds("", "", 0, "0-0");
        finds("", "", 1, String.valueOf(OUTSIDE));
        finds("", "", -1, String.valueOf(OUTSIDE));
        finds("", "ab", 2, "2-2");
        finds("", "ab", 3, String.valueOf(OUTSIDE));
        finds("", "a".repeat(100), 100, "100-100");
        finds(".*", "a".repeat(100), 0, "0-100");
        finds("(.)", "a".repeat(100), 99, "99-100 99-100");
        finds("()", "a".repeat(100), 100, "100-100 100-100");
        finds("(.*)", "a".repeat(100), 0, "0-100 0-100");
    }

    private static void leavesCaptures() {
        Edges.says("and leaves captures (a begin and an end each, or none); all are none at first.");
        finds("(a)|b", "b", "0-1 .");
        finds("(a)b|.c", "aac", "1-3 .");
        finds("(:(a)b|a)*", "aab", "0-3 1-2");
        finds("(:(a)b|a)*c", "abaac", "0-5 0-1");
        finds("(:(a)b|a)+", "aac", "0-2 .");
        finds("()", "", "0-0 0-0");
    }

    private static void takesSigns() {
        Edges.says("SIGN, ANY (all signs but 10), SET: the one sign there, if it is that, or in it: one way, to the next PLACE.");
        finds(".", "\n", "0");
        finds(".", "\t", "0-1");
        finds(".", "\u000b", "0-1");
        finds(".", "\r", "0-1");
        finds(".", "\u0000", "0-1");
        finds(".", "\uffff", "0-1");
        finds(".", "", "0");
        finds("a", "", "0");
        finds("[^a]", "", "0");
        finds("a", "a", 1, "0");
        finds("[b-d]", "a", "0");
        finds("[b-d]", "b", "0-1");
        finds("[b-d]", "d", "0-1");
        finds("[b-d]", "e", "0");
        finds("[^b-d]", "abde", "0-1");
        finds("[^b-d]", "bde", "2-3");
        finds("[^b-d]", "\n", "0-1");
        finds("[^\\x0000-\\xfffe]", "\ufffe\uffff", "1-2");
        finds("[^\\x0001-\\xffff]", "\u0001\u0000", "1-2");
        finds("[^\\x0000-\\xffff]", "\u0000\uffff", "0");
    }

    private static void foldsCases() {
        Edges.says("Within CASE (any depth) a LETTER is also the OTHER CASE of it: of a SIGN; in PARTS (ahead of ^).");
        finds("(%a)", "A", "0-1");
        finds("(%A)", "a", "0-1");
        finds("(%a)a", "aAAa", "2-4");
        finds("(%(((a))))", "A", "0-1 0-1 0-1 0-1");
        finds("(%(:b(%a)))", "BA", "0-2");
        finds("(%[y-z])", "Z", "0-1");
        finds("(%[Y-Z])", "z", "0-1");
        finds("(%[Z-a])", "zA", "0-1");
        finds("(%[Z-a])", "A", "0-1");
        finds("(%[Z-a])", "bB", "0");
        finds("(%[^a])", "Aab", "2-3");
        finds("(%[^A-Z])", "mM1", "2-3");
        finds("(%[@-\\[])", "`{", "0");
        finds("(%\\x0040)", "`", "0");
        finds("(%\\x0060)", "@", "0");
        finds("(%\\x005b)", "{", "0");
        finds("(%\\x007b)", "\\x005b", "0");
        finds("(%1)", "\u0011Q", "0");
        finds("(%.)", "\n", "0");
    }

    private static void asksEdges() {
        Edges.says("EDGE: one way, to the same PLACE: ^ at 0, $ at n, \\b if just one of the signs right ahead of it and right behind it is there and a WORD sign, \\B if not so.");
        finds("^", "", "0-0");
        finds("$", "", "0-0");
        finds("^a", "aa", 1, "0");
        finds("^", "aa", 1, "0");
        finds("a$", "aa", "1-2");
        finds("$", "aa", 0, "2-2");
        finds("$", "aa", 2, "2-2");
        finds("^", "a\na", 2, "0");
        finds("\\b", "", "0");
        finds("\\B", "", "0-0");
        finds("\\b", "a", "0-0");
        finds("\\b", "a", 1, "1-1");
        finds("\\B", "a", "0");
        finds("\\b", "-", "0");
        finds("\\B", "-", "0-0");
        finds("\\B", "-", 1, "1-1");
        finds("\\b", "ab", 1, "2-2");
        finds("\\B", "ab", 0, "1-1");
        finds("\\b", "a-", 1, "1-1");
        finds("\\b", "-a", 0, "1-1");
        finds("\\b.\\b", "_-9 Z", "0-1");
        finds("\\B", "a b", "0");
        finds("\\B", "a  b", "2-2");
    }

    private static void goesBackTo() {
        Edges.says("BACK: if that capture is not none, and as many signs are there as it has, each the same (within CASE: or the OTHER CASE): one way, behind them.");
        finds("(a)?\\1", "", "0");
        finds("(a)|\\1", "", "0");
        finds("(a?)\\1", "", "0-0 0-0");
        finds("(ab)\\1", "ababab", "0-4 0-2");
        finds("(ab)\\1", "aba", "0");
        finds("(ab)\\1", "ab", "0");
        finds("(a)\\1$", "aa", "0-2 0-1");
        finds("(a)\\1", "aA", "0");
        finds("(%(a)\\1)", "aA", "0-2 0-1");
        finds("(a)(%\\1)", "aA", "0-2 0-1");
        finds("(%(a))\\1", "aA", "0");
        finds("(\\x0040)(%\\1)", "@`", "0");
        finds("(a\\1)", "aa", "0");
        finds("(:(a\\1|b))+", "bab", "0-3 1-3");
    }

    private static void goesThroughRows() {
        Edges.says("ROW: of its first node each way, for each of these of the next one, and so on (none: one way, to the same PLACE). CHOICE: all of its first row, then of the second, and so on.");
        finds("", "a", 1, "1-1");
        finds("(|a)", "a", "0-0 0-0");
        finds("(a|)", "a", "0-1 0-1");
        finds("(a|ab)(c|bcd)", "abcd", "0-4 0-1 1-4");
        finds("(a|ab|abc)$", "abc", "0-3 0-3");
        finds("(a|ab)(b|)$", "ab", "0-2 0-1 1-2");
        finds("a(:)b", "ab", "0-2");
    }

    private static void loopsBelowTheLeast() {
        Edges.says("LOOP: TURNS so far 0. Below the least: each way of its node, TURNS one more.");
        finds("a{2}", "a", "0");
        finds("a{2}", "aaa", "0-2");
        finds("a{0}", "aaa", "0-0");
        finds("(:){20}", "", "0-0");
        finds("(|a){2}", "aa", "0-0 0-0");
        finds("(a|){3}", "aa", "0-2 2-2");
        finds("(|a){2}$", "aa", "0-2 1-2");
        finds("(|a){3}$", "aa", "0-2 1-2");
        finds("(a|){2,}", "a", "0-1 1-1");
        finds("(a|){1,}", "", "0-0 0-0");
        finds("(a|b){20}", "ab".repeat(10), "0-20 19-20");
        finds("(:ab){20}", "ab".repeat(20), "0-40");
        finds("(:ab){20}", "ab".repeat(19) + "a", "0");
    }

    private static void loopsAboveTheLeast() {
        Edges.says("At the least or above: greedy: if there is no most, or TURNS are below it, first each way of its node that ends at another PLACE than it began, TURNS one more; then the loop ends: one way, to the same PLACE; spare: that ahead of those.");
        finds("a{2,4}", "aaaaa", "0-4");
        finds("a{2,4}?", "aaaaa", "0-2");
        finds("a{2,4}?b", "aaaab", "0-5");
        finds("a{2,3}b", "aaaab", "1-5");
        finds("a{0,20}", "a".repeat(21), "0-20");
        finds("a{20,}", "a".repeat(100), "0-100");
        finds("a{20,}", "a".repeat(19), "0");
        finds("(|a)*", "aa", "0-2 1-2");
        finds("(|a){1,}", "aa", "0-2 1-2");
        finds("(|a){0,1}", "aa", "0-1 0-1");
        finds("(|a){0,2}", "aaa", "0-2 1-2");
        finds("(|a){1,2}", "aaa", "0-1 0-1");
        finds("(a|){0,3}", "a", "0-1 0-1");
        finds("(a*)*", "", "0-0 .");
        finds("(a*)+", "", "0-0 0-0");
        finds("(a*){0,5}", "b", "0-0 .");
        finds("(:(a)|b)*", "ab", "0-2 0-1");
        finds("(a*?)*?$", "aa", "0-2 1-2");
        finds("(|a)*?$", "aa", "0-2 1-2");
        finds("(:a?\\b)*", "a", "0-1");
        finds("()*a", "a", "0-1 .");
        finds("()+a*?", "a", "0-0 0-0");
        finds("(a*?)*", "aa", "0-2 1-2");
        finds("(a*?){2,}b", "aab", "0-3 1-2");
        finds("(:(:a*?b*?)*?)*c", "abc", "0-3");
        finds("(:".repeat(9) + "a*" + ")*".repeat(9), "aa", "0-2");
        finds("(:".repeat(8) + "(a*?" + ")*".repeat(9), "aab", "0-2 1-2");
        finds("(:".repeat(8) + "(|a" + ")*?".repeat(9) + "b", "ab", "0-2 0-1");
        finds("(:()*)*a", "a", "0-1 .");
        finds("(:(a|b*?)*)*c", "abbc", "0-4 2-3");
        Edges.says("Cutting: the first way of the same loop greedy.");
        finds("a*+", "aaa", "0-3");
        finds("a*+a", "aaa", "0");
        finds("a{1,2}+a", "aaa", "0-3");
        finds("a{1,2}+a", "aa", "0");
        finds("(:a|ab)*+b", "ab", "0-2");
        finds("(:a|ab)*+c", "abc", "2-3");
        finds("a{0}+", "a", "0-0");
        finds("(:a|ab)c*+d", "abcd", "0-4");
        finds("(:a|ab)(:c|)*+d", "abcd", "0-4");
        finds("(:a??){2}+a", "a", "0-1");
    }

    private static void cuts() {
        Edges.says("CAPTURE: the ways of what it holds, each with that capture from where it began to where it ends. CUT: the first way of what it holds. CASE: its ways.");
        finds("(a|ab)(:c|$)", "abc", "0-3 0-2");
        finds("(a|ab)(:c|$)c", "abcc", "0-4 0-2");
        finds("(*a|ab)c", "abc", "0");
        finds("(*)a", "a", "0-1");
        finds("(*(a)|b)+", "ab", "0-2 0-1");
        finds("(*b)", "a", "0");
        finds("(:a|ab)(*c|)d", "abcd", "0-4");
        finds("(%a|ab)c", "ABc", "0-3");
    }

    private static void looks() {
        Edges.says("LOOK =: if what it holds has a way: one, to the same PLACE, with the captures of the first one.");
        finds("(=(a|ab))\\1c", "abc", "0");
        finds("(=(ab|a))\\1c", "abc", "0-3 0-2");
        finds("(=)$", "", "0-0");
        finds("a(=$)", "aa", "1-2");
        finds("(:a|ab)(=c|)c", "abc", "0-3");
        Edges.says("<: likewise the first way that ends here, of what it holds from this PLACE, then from the one ahead of it, and so on down to 0.");
        finds("(<(a*))b", "aab", "2-3 2-2");
        finds("(<(a+))b", "aab", "2-3 1-2");
        finds("(<^(a*))b", "aab", "2-3 0-2");
        finds("(<^(a*))", "aab", 1, "1-1 0-1");
        finds("(<a)", "a", "1-1");
        finds("(<a)", "", "0");
        finds("(<a)", "b", "0");
        finds("(<)", "", "0-0");
        finds("(<a|ab)c", "abc", "2-3");
        finds("(<^" + ".{20}".repeat(5) + ")", "a".repeat(100), 100, "100-100");
        Edges.says("! and ~: if there is none such: one way, to the same PLACE (captures as they were).");
        finds("(!(a))b", "ab", "1-2 .");
        finds("(a)(!(b))", "abac", "2-3 2-3 .");
        finds("(!)", "a", "0");
        finds("(!a)", "a", "1-1");
        finds("(~a)", "a", "0-0");
        finds("(~a)b", "ab", "0");
        finds("(~^)", "ab", "1-1");
        finds("(~^.?)", "ab", "2-2");
        finds("(~)", "", "0");
        finds("(~^(a))b", "ab", "0");
        finds("(:(a)|(~(b)x).)*", "ac", "0-2 0-1 .");
    }

    private static void steps(String text, String subject, int due) {
        Kit kit = new Kit().pattern(0, text).subject(0, subject);
        kit.x.find(0, 0, 0, 0, 3000);
        Edges.due("steps of " + text + " in " + subject, kit.x.steps(), due);
        if (due > 1) {
            Edges.due("one step less", kit.x.find(0, 0, 0, 0, due - 1) + " " + kit.x.steps(), MORE + " " + (due - 1));
            Edges.due("and one more", kit.x.goOn(1) != MORE ? kit.x.steps() : MORE, due);
        }
    }

    private static void countsSteps() {
        Edges.says("A STEP: a SIGN, ANY, SET, EDGE, BACK is asked at a PLACE; a CHOICE is come to at one; a TURN of a LOOP is begun; a LOOK, CUT or cutting LOOP is begun, and each PLACE from which < and ~ try (what is gone through within LOOKS, CUTS, cutting LOOPS counts, too).");
        steps("", "", 0);
        steps("()(:)(%)(@a)", "", 0);
        steps("a", "", 1);
        steps("a", "aa", 1);
        steps("a", "b", 2);
        steps(".", "\n", 2);
        steps("[a]", "ba", 2);
        steps("^", "", 1);
        steps("()\\1", "", 1);
        steps("(a)?\\1", "", 3);
        steps("|", "", 1);
        steps("a|b|c", "c", 4);
        steps("(:)*", "", 1);
        steps("(:)+", "", 2);
        steps("(:){20}", "", 20);
        steps("(:){0}", "", 0);
        steps("(:)*?", "", 0);
        steps("(:)*+", "", 2);
        steps("(:){0}+", "", 1);
        steps("a?", "a", 2);
        steps("a?", "b", 2);
        steps("(*)", "", 1);
        steps("(=)", "", 1);
        steps("(!)", "", 1);
        steps("(<)", "", 2);
        steps("(~)", "", 2);
        steps("(=a)", "a", 2);
        steps("(*a*)", "a", 5);
        steps("a++", "a", 5);
        steps("(<a)", "ba", 3 + 5 + 5);
        steps("(~a)", "b", 3);
        steps("(~b)a", "ba", 3 + 1 + 5 + 7 + 1);
        steps("(~^)", "ab", 3 + 5);
    }

    private static void findsFromPlaces() {
        Edges.says("TO FIND from a PLACE f: the first of f, f + 1, .. n from which the pattern has a way, and of these the first way: its begin, end, and captures. WHOLE: of the ways from 0 the first that ends at n.");
        finds("a", "aba", 0, "0-1");
        finds("a", "aba", 1, "2-3");
        finds("a", "aba", 3, "0");
        finds("$", "aba", 3, "3-3");
        finds("a*", "aba", 3, "3-3");
        finds("(<a)b", "ab", 1, "1-2");
        String[] texts = {"a|ab", "a*?", "a", "", "(a|ab)(b|)", "b"};
        String[] due = {"0-2", "0", "0", "0", "0-2 0-1 1-2", "0"};
        for (int i = 0; i < texts.length; i++) {
            for (int machine = 0; machine < 3; machine++) {
                Kit kit = new Kit().pattern(0, texts[i]).subject(0, "ab");
                int answer = kit.x.whole(0, 0, machine);
                Edges.due(texts[i] + " is all of ab by " + machine, answer == 1 ? kit.spans() : String.valueOf(answer), due[i]);
            }
        }
    }

    private static void isSpentByTheNext() {
        Edges.says("one search (from its first PLACE on) takes 3000 at most: it would be the 3001st: SPENT.");
        Kit kit = new Kit().pattern(0, TURNS + "(:){10}").pattern(1, TURNS + "(:){11}").pattern(2, TURNS + "(:){9}").subject(0, "");
        Edges.due("2999", kit.x.find(2, 0, 0, 0, 3000) + " " + kit.x.steps(), "1 2999");
        Edges.due("3000", kit.x.find(0, 0, 0, 0, 3000) + " " + kit.x.steps(), "1 3000");
        Edges.due("3001", kit.x.find(1, 0, 0, 0, 3000) + " " + kit.x.steps(), SPENT + " 3000");
        Edges.due("whole of 3000", kit.x.whole(0, 0, 0) + " " + kit.x.steps(), "1 3000");
        Edges.due("whole of 3001", kit.x.whole(1, 0, 0) + " " + kit.x.steps(), SPENT + " 3000");
        Edges.due("all of 3000", kit.x.all(0, 0, 0), 1);
        Edges.due("all of 3001", kit.x.all(1, 0, 0), SPENT);
        Edges.due("replace of 3000", kit.x.replace(0, 0, 0), 0);
        Edges.due("replace of 3001", kit.x.replace(1, 0, 0), SPENT);
        Edges.due("first of 3000", kit.x.first(1, 0, 0, 0), 0);
        Edges.due("first of 3001", kit.x.first(3, 0, 0, 0), SPENT);
        kit.pattern(3, "x").subject(1, "x" + "a".repeat(40)).pattern(4, "x|" + Edges.SLOW);
        Edges.due("each search by itself", kit.x.all(4, 1, 0) + " " + kit.x.find(4, 1, 0, 0, 3000), SPENT + " 1");
        Edges.says("1 PARALLEL and 2 TABLE tell the same without STEPS (0), but do not take all patterns");
        for (int machine = 1; machine < 3; machine++) {
            kit.x.find(3, 1, 0, 0, 3000);
            Edges.due("by machine " + machine, kit.x.find(4, 1, 1, machine, 3000) + " " + kit.x.steps(), "0 0");
        }
    }

    private static void kind(String text, int one, int two) {
        Kit kit = new Kit().pattern(0, text).subject(0, "");
        int[] due = {0, one, two};
        for (int machine = 0; machine < 3; machine++) {
            int answer = kit.x.find(0, 0, 0, machine, 3000);
            Edges.due(text + " by " + machine, answer < 0 ? answer : 0, due[machine]);
        }
        Edges.due("table of " + text, Math.min(kit.x.table(0), 0), two);
    }

    private static void keepsManyChoices() {
        Edges.says("0 GOING BACK takes all patterns, goes through the ways in that order, one by one, and counts STEPS;");
        // 1200 choices are kept without a step each, and gone back to by two.
        Kit kit = new Kit().pattern(0, "(a)??(:(:" + "b??".repeat(30) + "){20}){2}$").subject(0, "a");
        Edges.due("1200 choices", kit.x.find(0, 0, 0, 0, 3000) + " " + kit.spans() + " " + kit.x.steps(), "1 0-1 0-1 " + (43 + 2400 + 2 + 43));
        // What is begun behind 2526 turns is undone alone.
        kit = new Kit().pattern(0, "(:(:(:){20}){20}){6}(:(a)x|a)").subject(0, "ay");
        Edges.due("2526 turns", kit.x.find(0, 0, 0, 0, 3000) + " " + kit.spans() + " " + kit.x.steps(), "1 0-1 . " + (2526 + 4));
        kit = new Kit().pattern(0, "(:(:(:(:)(:)(:)){20}){20}){6}(:(a)x|a)").subject(0, "ay");
        Edges.due("the same once more", kit.x.find(0, 0, 0, 0, 3000) + " " + kit.spans() + " " + kit.x.steps(), "1 0-1 . " + (2526 + 4));
    }

    private static void refusesKinds() {
        Edges.says("KIND: 1: no BACK, LOOK, CUT, cutting LOOP, no LOOP with a most above its least whose node MAY BE EMPTY (one without most is taken); 2: besides no EDGE.");
        kind("()\\1", KIND, KIND);
        for (String look : new String[] {"=", "!", "<", "~", "*"}) {
            kind("(" + look + "a)", KIND, KIND);
            kind("a|(b(" + look + "a)*)", KIND, KIND);
        }
        kind("(%(a))", 0, 0);
        for (String loop : new String[] {"*", "+", "?", "{2}", "{0}", "{2,3}"}) {
            kind("a" + loop + "+", KIND, KIND);
            kind("a" + loop, 0, 0);
            kind("a" + loop + "?", 0, 0);
        }
        kind("(:a?)?", KIND, KIND);
        kind("(:a?){0,1}?", KIND, KIND);
        kind("(:a?){19,20}", KIND, KIND);
        kind("(:a?){20,20}", 0, 0);
        kind("(:a?){0,0}", 0, 0);
        kind("(:a?){1}", 0, 0);
        kind("(:a?)*", 0, 0);
        kind("(:a?){20,}", 0, 0);
        kind("(:)?", KIND, KIND);
        kind("(:){2}", 0, 0);
        kind("(|a){1,2}", KIND, KIND);
        kind("(:^)?", KIND, KIND);
        kind("(:^)*", 0, KIND);
        for (String edge : new String[] {"^", "$", "\\b", "\\B"}) {
            kind(edge, 0, KIND);
            kind("(a|" + edge + ")*", 0, KIND);
            kind("(:" + edge + "){0}", 0, KIND);
        }
    }

    private static void refusesTheLarge() {
        Edges.says("LARGE: SIZE above 200; 2: POSITIONS above 60, too.");
        String many = "(:a{19}){9}";
        kind(many + "b".repeat(18), 0, LARGE);
        kind(many + "b".repeat(19), LARGE, LARGE);
        kind("(:(:){19}){9}" + "(:)".repeat(18), 0, 0);
        kind("(:(:){19}){9}" + "(:)".repeat(19), LARGE, LARGE);
        kind("a{20}a{20}a{18}", 0, 0);
        kind("(:a{0}){20}".repeat(3), 0, 0);
        kind("(:a{0}){20}".repeat(3) + "b", 0, LARGE);
        kind("[^\\x0000-\\xffff]" + "a".repeat(59), 0, 0);
        kind("[^\\x0000-\\xffff]" + "a".repeat(60), 0, LARGE);
        kind(many + "b".repeat(19) + "^", LARGE, KIND);
        kind("a{20}".repeat(4) + "^", 0, KIND);
        Kit kit = new Kit().pattern(0, many + "b".repeat(18)).pattern(1, "[^\\x0000-\\xffff]" + "a".repeat(59));
        Edges.due("the sizes", kit.x.node(0, 0, 3) + " " + kit.x.node(1, 0, 4), "200 60");
    }

    private static void size(String text, int size, int positions) {
        Kit kit = new Kit().pattern(0, text);
        Edges.due("size and positions of " + text, kit.x.node(0, 0, 3) + " " + kit.x.node(0, 0, 4), size + " " + positions);
    }

    private static void measures() {
        Edges.says("SIZE: of a LOOP 1 and so many times that of its node: its most (without one the least and 1), 1 at least; of others 1 and the SIZES of their parts. POSITIONS: SIGN, ANY, SET 1; a LOOP so many times those of its node; others the sum.");
        size("", 1, 0);
        size("a", 1, 1);
        size(".", 1, 1);
        size("[abx]", 1, 1);
        size("^", 1, 0);
        size("(=ab)", 4, 2);
        size("(*a|b)", 4, 2);
        size("(%a)", 2, 1);
        size("(a)\\1", 4, 1);
        size("a{0}", 2, 1);
        size("a{0,1}", 2, 1);
        size("a{0,2}", 3, 2);
        size("a{1}", 2, 1);
        size("a{2,3}", 4, 3);
        size("a{0,}", 2, 1);
        size("a{1,}", 3, 2);
        size("a{20,}", 22, 21);
        size("(:a{0}){0}", 3, 1);
        size("(:ab){20}", 61, 40);
        size("(:(:ab){0,2}c){3,}", 37, 20);
    }

    private static void empty(String text, int due) {
        Edges.due(text + " may be empty", new Kit().pattern(0, text).x.node(0, 0, 5), due);
    }

    private static void tellsWhatMayBeEmpty() {
        Edges.says("A node MAY BE EMPTY: EDGE, BACK, LOOK; a ROW if all of it may, a CHOICE if one may; a LOOP if its least is 0 or its node may; others if what they hold may.");
        String[] may = {"", "^", "(=a)", "(!a)", "(<a)", "(~a)", "a?b*", "a|b|", "|a", "a|b?", "a{0}", "a{0,5}", "(:a?){2}", "(:a?)+", "()", "(*)", "(%)", "(*a?)", "(%a|)"};
        for (String text : may) {
            empty(text, 1);
        }
        String[] not = {"a", ".", "[a]", "a?b", "ab?", "a|b", "a{1}", "a+", "a{1,5}", "(a)", "(*a)", "(%a)", "^a"};
        for (String text : not) {
            empty(text, 0);
        }
        Edges.due("a back", new Kit().pattern(0, "(a)\\1").x.node(0, 3, 5), 1);
    }

    private static void begins(String text, String yes, String no) {
        Kit kit = new Kit().pattern(0, text);
        for (char c : yes.toCharArray()) {
            Edges.due(text + " begins with " + (int) c, kit.x.begins(0, c), 1);
        }
        for (char c : no.toCharArray()) {
            Edges.due(text + " begins with " + (int) c, kit.x.begins(0, c), 0);
        }
    }

    private static void tellsBeginnings() {
        Edges.says("A BEGINNING sign of a node: with which a way of it that eats may begin: of SIGN, ANY, SET those that they take (within CASE, too); of a ROW those of its nodes up to the first that may not be empty; of a CHOICE of all its rows; of BACK all signs; of EDGE, LOOK none; of a LOOP with most 0 none; else those of what it holds.");
        begins("b", "b", "acB");
        begins(".", "\u0000\t\u000b\uffff", "\n");
        begins("[b-d]", "bd", "ae");
        begins("[^b-d]", "ae\n\u0000\uffff", "bcd");
        begins("(%b)", "bB", "aAcC");
        begins("(%[^B])", "aA", "bB");
        begins("", "", "\u0000a\uffff");
        begins("a?b?c", "abc", "d");
        begins("a?bc?", "ab", "c");
        begins("(:)^(=x)a", "a", "x");
        begins("a|b?|", "ab", "c");
        begins("(a)\\1", "a", "b");
        begins("(a?)\\1", "ab\u0000\uffff", "");
        begins("^$\\b\\B", "", "a");
        begins("(=a)(!b)(<c)(~d)", "", "abcd");
        begins("a{0}", "", "a");
        begins("a{0,0}b", "b", "a");
        begins("a{0,1}", "a", "b");
        begins("(:a{0}){5}b", "b", "a");
        begins("(:(a)(*b))", "a", "b");
        begins("(*a?)(%b)", "abB", "A");
    }

    private static void states(String text, int table, int least) {
        Kit kit = new Kit().pattern(0, text);
        Edges.due("states of " + text, kit.x.table(0) + " " + kit.x.least(0), table + " " + least);
    }

    private static void makesTables() {
        Edges.says("A TABLE STATE: the set of POSITIONS (each copy of a LOOP's node apart) that can have eaten the last sign of a text on a way from its begin; the state of no text is one by itself; texts with the same set (also the empty set) have one state.");
        states("", 2, 2);
        states("a*", 3, 2);
        states("a{1,}", 4, 3);
        states("a{2,}", 5, 4);
        states("a{0}", 2, 2);
        states("a|a", 3, 3);
        states("ab|ac", 5, 4);
        states("[\\x0000-\\xffff]*", 2, 1);
        states("[\\x0000-\\xffff]{2,}", 4, 3);
        states("[^\\x0000-\\xffff]", 2, 1);
        states("(:a?){2}", 4, 4);
        Edges.says("LARGE: there would be more than 60.");
        states("a{20}a{20}a{18}", 60, 60);
        states("a{20}a{20}a{19}", LARGE, LARGE);
        states("[\\x0000-\\xffff]{20}".repeat(2) + "[\\x0000-\\xffff]{18}", 60, 60);
        states("[\\x0000-\\xffff]{20}".repeat(2) + "[\\x0000-\\xffff]{17}[\\x0000-\\xffff]{2,}", LARGE, LARGE);
        states("[\\x0000-\\xffff]{20}".repeat(2) + "[\\x0000-\\xffff]{17}[\\x0000-\\xffff]{1,}", 60, 59);
        states("(:a{20}a{20}a{18})*", 60, 59);
        Edges.says("THE LEAST table is one with the fewest states that tells of each text whether it is in the set (a state for each sign, the one from which nothing comes any more counts too).");
        states("a", 3, 3);
        states(".*", 3, 2);
        states(".*|\\x000a[^\\x0000-\\xffff]", 4, 2);
        states("a[^\\x0000-\\xffff]", 3, 1);
        states("(:a|b)*", 4, 2);
        states("(:a|b|c){2}", 8, 4);
        Edges.says("THE SET of a pattern: all texts (of any signs and length) of which it has a WHOLE way.");
        Kit kit = new Kit().pattern(0, "[^\\x0000-\\xffff]").pattern(1, "").pattern(2, "[\\x0000-\\xffff]*").pattern(3, "[\\x0000-\\xffff]+").subject(0, "a");
        Edges.due("the empty set is within all", kit.x.compare(0, 1) + " " + kit.x.compare(0, 2) + " " + kit.x.compare(0, 0), "1 1 3");
        Edges.due("all is round all", kit.x.compare(2, 0) + " " + kit.x.compare(2, 1) + " " + kit.x.compare(2, 3), "2 2 2");
        Edges.due("the empty text", kit.x.compare(1, 3) + " " + kit.x.parting(2, 3), "0 0");
        Edges.due("no text begins one of no set", kit.x.prefix(0, 0, 0), NONE);
    }
}
