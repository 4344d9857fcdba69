/** Promises 15 to 24: find, goOn, span, named, whole, all, replace, first, prefix, steps. */
public final class FindingTest {
    private static final int UNKNOWN = PatternWorkshop.UNKNOWN, OUTSIDE = PatternWorkshop.OUTSIDE, NONE = PatternWorkshop.NONE;
    private static final int NO_SUBJECT = PatternWorkshop.NO_SUBJECT, STATE = PatternWorkshop.STATE, KIND = PatternWorkshop.KIND;
    private static final int LARGE = PatternWorkshop.LARGE, SPENT = PatternWorkshop.SPENT, ROOM = PatternWorkshop.ROOM, MORE = PatternWorkshop.MORE;
    private static final String SLOW = "(:a*)*(:a*)*b";

    public static void main(String[] args) {
        findsByAll();
        tellsWordSigns();
        findsByGoingBack();
        countsSteps();
        standsStillAndGoesOn();
        endsSearches();
        isSpent();
        refusesKindAndLarge();
        refusesToFind();
        tellsSpans();
        tellsNames();
        tellsWhole();
        tellsAll();
        replaces();
        refusesToReplace();
        tellsFirst();
        tellsPrefix();
        Kit.end("FindingTest");
    }

    private static String find(Kit kit, String text, String subject, int machine) {
        kit.pattern(0, text).subject(0, subject);
        int answer = kit.x.find(0, 0, 0, machine, 3000);
        return answer == 1 ? kit.spans() : String.valueOf(answer);
    }

    /** What all three machines find. */
    private static void finds(String text, String subject, String due) {
        Kit kit = new Kit();
        for (int machine = 0; machine < 3; machine++) {
            Kit.due(text + " in " + subject + " by " + machine, find(kit, text, subject, machine), due);
        }
    }

    /** What machine 0 alone finds. */
    private static void goesBack(String text, String subject, String due) {
        Kit.due(text + " in " + subject, find(new Kit(), text, subject, 0), due);
    }

    private static void findsByAll() {
        finds("a", "bab", "1-2");
        finds("a", "bbb", "0");
        finds("", "abc", "0-0");
        finds("a|ab", "xab", "1-2");
        finds("ab|a", "xab", "1-3");
        finds("a*", "baa", "0-0");
        finds("a*?", "aa", "0-0");
        finds("a+?b", "xaab", "1-4");
        finds("a{2,3}", "aaaa", "0-3");
        finds("a{2,3}?", "aaaa", "0-2");
        finds("a{2,}?b", "ab aaab", "3-7");
        finds("(a)|(b)", "b", "0-1 . 0-1");
        finds("(a|(b))*", "aba", "0-3 2-3 1-2");
        finds("(|a)*", "aa", "0-2 1-2");
        finds("(|a)+", "aa", "0-2 1-2");
        finds("(|a){2}", "aa", "0-0 0-0");
        finds("(a|ab)(c|bcd)(d*)", "abcd", "0-4 0-1 1-4 4-4");
        finds("(:(a)|b)*", "ab", "0-2 0-1");
        finds("(a*?)*?b", "aab", "0-3 1-2");
        finds("(a*)*", "b", "0-0 .");
        finds("(a*)+", "b", "0-0 0-0");
        finds(".", "\n\uffff", "1-2");
        finds("[^a]", "a\n", "1-2");
        finds("(%aB[c-d]X)", "ABDx", "0-4");
        finds("(%[^b])", "Bb", "0");
        finds("(%1_@)", "1_@", "0-3");
        finds("(%\\x005b)", "{[", "1-2");
        finds("a{0}b", "ab", "1-2");
        Kit kit = new Kit();
        for (int machine = 0; machine < 2; machine++) {
            Kit.due("^a", find(kit, "^a", "aa", machine), "0-1");
            Kit.due("a$", find(kit, "a$", "aa", machine), "1-2");
            Kit.due("\\bb", find(kit, "\\bb", "ab_b b", machine), "5-6");
            Kit.due("\\Bb", find(kit, "\\Bb", "b ab", machine), "3-4");
            Kit.due("\\b at the end", find(kit, "a\\b$", "aa", machine), "1-2");
            Kit.due("\\B of nothing", find(kit, "\\B", "", machine), "0-0");
            Kit.due("\\b of nothing", find(kit, "\\b", "", machine), "0");
            Kit.due("an edge within loops", find(kit, "(a*?\\B)+", "baaab", machine), "1-4 3-4");
        }
    }

    private static void tellsWordSigns() {
        Kit kit = new Kit();
        for (int machine = 0; machine < 2; machine++) {
            for (char c : "azAZ09_mM5".toCharArray()) {
                Kit.due("\\b ahead of " + c, find(kit, "\\b", String.valueOf(c), machine), "0-0");
                Kit.due("\\w of " + c, find(kit, "\\w", String.valueOf(c), machine), "0-1");
            }
            for (char c : "@[`{/:^\u0000\u007f\u00e9\u212a\uffff".toCharArray()) {
                Kit.due("\\b ahead of " + (int) c, find(kit, "\\b", String.valueOf(c), machine), "0");
                Kit.due("\\w of " + (int) c, find(kit, "\\w", String.valueOf(c), machine), "0");
            }
        }
        String small = "azmk";
        for (char c : small.toCharArray()) {
            finds("(%" + c + ")", String.valueOf((char) (c - 32)), "0-1");
            finds("(%" + (char) (c - 32) + ")", String.valueOf(c), "0-1");
            goesBack("(" + c + ")(%\\1)", c + "" + (char) (c - 32), "0-2 0-1");
        }
        for (String pair : new String[] {"@`", "`@", "[{", "{[", "k\u212a", "0\u0010"}) {
            goesBack("(.)(%\\1)", pair, "0");
        }
    }

    private static void findsByGoingBack() {
        goesBack("(a|b)\\1", "abba", "1-3 1-2");
        goesBack("\\b(\\w+) \\1\\b", "aa b bb bb", "5-10 5-7");
        goesBack("(a)?\\1", "b", "0");
        goesBack("(a?)\\1", "b", "0-0 0-0");
        goesBack("(%(a)\\1)", "aA", "0-2 0-1");
        goesBack("(a)\\1", "aA", "0");
        goesBack("(a\\1?)*", "aaa", "0-3 1-3");
        goesBack("(@na)(%\\@n)", "aA", "0-2 0-1");
        goesBack("a(=b)", "acab", "2-3");
        goesBack("a(=(b))\\1", "ab", "0-2 1-2");
        goesBack("a(!b).", "abac", "2-4");
        goesBack("(!(a))b", "ab", "1-2 .");
        goesBack("(<ab)c", "acabc", "4-5");
        goesBack("(<(a|b*))c", "bbc", "2-3 2-2");
        goesBack("(<(b+))c", "bbc", "2-3 1-2");
        goesBack("(<b.*)c", "abcc", "2-3");
        goesBack("(<a$)", "a", "1-1");
        goesBack("(~a)b", "abbb", "2-3");
        goesBack("(~^)a", "aa", "1-2");
        goesBack("(~b*)a", "ba", "0");
        goesBack("(*a|ab)c", "abc", "0");
        goesBack("(*ab|a)c", "abc", "0-3");
        goesBack("(*a*)a", "aaa", "0");
        goesBack("a++b", "aab", "0-3");
        goesBack("a*+a", "aaa", "0");
        goesBack("a?+a", "a", "0");
        goesBack("(:a|ab){1}+c", "abc", "0");
        goesBack("(|a){0,2}", "aa", "0-2 1-2");
        goesBack("(a|){1,3}b", "aab", "0-3 1-2");
        goesBack("(=(a+))b*\\1", "aaxaa", "0-2 0-2");
        goesBack("(=a(!b))a", "abaa", "2-3");
        goesBack("(:(*a+)b|a)+c", "aabac", "0-5");
    }

    private static void steps(String text, String subject, int due) {
        Kit kit = new Kit().pattern(0, text).subject(0, subject);
        kit.x.find(0, 0, 0, 0, 3000);
        Kit.due("steps of " + text + " in " + subject, kit.x.steps(), due);
    }

    private static void countsSteps() {
        steps("a", "a", 1);
        steps("a", "ba", 2);
        steps("a", "", 1);
        steps("", "a", 0);
        steps("ab", "aab", 4);
        steps("^", "a", 1);
        steps("()\\1", "a", 1);
        steps("a|b", "b", 3);
        steps("(:a|b)c", "bc", 4);
        steps("a*", "aa", 6);
        steps("a{2}", "aa", 4);
        steps("a{0}", "aa", 0);
        steps("a*?", "aa", 0);
        steps("a*?b", "ab", 4);
        steps("a*+", "aa", 7);
        steps("(*a)", "a", 2);
        steps("(=a)", "a", 2);
        steps("(!a)", "b", 2);
        steps("(<a)", "a", 8);
        steps("(~a)", "a", 3);
        steps("(:)*", "", 1);
        steps("(:){3}", "", 3);
        steps("(:|a)*", "a", 6);
        Kit kit = new Kit().pattern(0, "(<a)b").subject(0, "ab");
        Kit.due("find from 1", kit.x.find(0, 0, 1, 0, 3000) + " " + kit.x.steps(), "1 6");
        kit.x.find(0, 0, 1, 3, 3000);
        Kit.due("a refused find leaves them", kit.x.steps(), 6);
        kit.pattern(1, "b");
        kit.x.find(1, 0, 0, 1, 0);
        Kit.due("by machine 1 there are none", kit.x.steps(), 0);
        kit.x.all(1, 0, 0);
        Kit.due("of all() the last search", kit.x.steps(), 1);
        kit.x.whole(1, 0, 0);
        Kit.due("of whole()", kit.x.steps(), 1);
        kit.pattern(2, "a|b|c");
        kit.x.first(6, 0, 0, 0);
        Kit.due("of first() the last search", kit.x.steps(), 2);
        kit.x.first(6, 0, 0, 2);
        Kit.due("of first() by machine 2", kit.x.steps(), 0);
    }

    private static void standsStillAndGoesOn() {
        String[] texts = {"a*b", "(a|b)*c", "(:a|ab)(=c|d)c", "x(<(a|b)+x)(~b+x)c", "(*a|b)+?c", "a*+(!b)c", "(<a*)b{2,3}"};
        String subject = "aabxabbxabc";
        for (String text : texts) {
            for (int some = 1; some < 5; some++) {
                Kit kit = new Kit();
                String due = find(kit, text, subject, 0) + " steps " + kit.x.steps();
                int answer = kit.x.find(0, 0, 0, 0, some);
                int done = some;
                for (int i = 0; answer == MORE && i < 3000; i++) {
                    Kit.due("steps so far", kit.x.steps(), done);
                    Kit.due("it can go on", kit.x.told(6), 1);
                    answer = kit.x.goOn(some);
                    done += some;
                }
                String got = (answer == 1 ? kit.spans() : String.valueOf(answer)) + " steps " + kit.x.steps();
                Kit.due(text + " by " + some, got, due);
                Kit.due("it can not go on", kit.x.goOn(some) + " " + kit.x.told(6), STATE + " 0");
            }
        }
        Kit kit = new Kit().pattern(0, "ab").subject(0, "ab");
        Kit.due("just enough", kit.x.find(0, 0, 0, 0, 2), 1);
        Kit.due("not enough", kit.x.find(0, 0, 0, 0, 1), MORE);
        Kit.due("the spans stay", kit.spans(), "0-2");
        Kit.due("goOn(0)", kit.x.goOn(0), OUTSIDE);
        Kit.due("goOn(3001)", kit.x.goOn(3001), OUTSIDE);
        Kit.due("it can go on still", kit.x.goOn(3000), 1);
        Kit.due("goOn(0) is outside ahead of the state", kit.x.goOn(0), OUTSIDE);
    }

    /** Whether a search can go on after a call. */
    private static void openAfter(String what, int due, Kit kit) {
        Kit.due("can go on after " + what, kit.x.told(6), due);
    }

    private static Kit open() {
        Kit kit = new Kit().pattern(0, "ab").pattern(1, "a").subject(0, "ab").subject(1, "b");
        Kit.due("open", kit.x.find(0, 0, 0, 0, 1), MORE);
        return kit;
    }

    private static void endsSearches() {
        Kit kit = open();
        kit.read(0, "a)");
        openAfter("a fault", 1, kit);
        kit.read(1, "b");
        openAfter("another pattern", 1, kit);
        kit.x.forget(1);
        kit.x.forget(2);
        openAfter("forget of another", 1, kit);
        kit.x.put(1, 1, 97);
        kit.x.put(0, 5, 97);
        kit.x.drop(1);
        openAfter("another subject", 1, kit);
        kit.x.find(0, 0, 0, 0, 0);
        kit.x.whole(0, 3, 0);
        kit.x.all(0, 0, 7);
        kit.feed("$9");
        kit.x.replace(0, 0, 0);
        kit.x.first(0, 0, 0, 0);
        openAfter("refused calls", 1, kit);
        kit.x.prefix(0, 0, 0);
        kit.x.table(0);
        kit.x.print(0);
        kit.x.risky(0);
        openAfter("other calls", 1, kit);
        Kit.due("it goes on", kit.x.goOn(9) + " " + kit.spans(), "1 0-2");
        kit = open();
        kit.pattern(0, "ab");
        openAfter("its pattern anew", 0, kit);
        kit = open();
        kit.x.forget(0);
        openAfter("its pattern forgotten", 0, kit);
        kit = open();
        kit.x.put(0, 0, 0);
        openAfter("its subject put to", 0, kit);
        kit = open();
        kit.x.drop(0);
        openAfter("its subject dropped", 0, kit);
        kit = open();
        kit.x.find(1, 1, 0, 2, 0);
        openAfter("another find", 0, kit);
        kit = open();
        kit.x.whole(1, 1, 0);
        openAfter("whole", 0, kit);
        kit = open();
        kit.x.all(1, 1, 1);
        openAfter("all", 0, kit);
        kit = open();
        kit.x.replace(1, 1, 1);
        openAfter("replace", 0, kit);
        kit = open();
        kit.x.first(2, 1, 0, 1);
        openAfter("first", 0, kit);
        kit = open();
        kit.x.clear();
        openAfter("clear", 0, kit);
        kit = open();
        kit.pattern(1, "").subject(1, "a".repeat(100)).feed("x".repeat(9));
        Kit.due("room", kit.x.replace(1, 1, 1), ROOM);
        openAfter("a replace that was not refused ahead of its search", 0, kit);
    }

    private static void isSpent() {
        Kit kit = new Kit().pattern(0, SLOW).pattern(1, "a").subject(0, "a".repeat(30)).subject(1, "a");
        Kit.due("found", kit.x.find(1, 0, 0, 0, 1), 1);
        Kit.due("spent", kit.x.find(0, 0, 0, 0, 3000) + " " + kit.x.steps(), SPENT + " 3000");
        Kit.due("the spans stay", kit.spans(), "0-1");
        Kit.due("it can not go on", kit.x.goOn(1), STATE);
        Kit.due("2999", kit.x.find(0, 0, 0, 0, 2999), MORE);
        Kit.due("3000", kit.x.goOn(1) + " " + kit.x.told(6), SPENT + " 0");
        Kit.due("1500", kit.x.find(0, 0, 0, 0, 1500), MORE);
        Kit.due("3000", kit.x.goOn(3000) + " " + kit.x.steps(), SPENT + " 3000");
        Kit.due("whole", kit.x.whole(0, 0, 0), SPENT);
        kit.x.print(1);
        Kit.due("all", kit.x.all(0, 0, 0) + " " + kit.out() + kit.x.told(4), SPENT + " a0");
        kit.feed("xy");
        Kit.due("replace", kit.x.replace(0, 0, 0) + " " + kit.x.told(0), SPENT + " 2");
        Kit.due("first", kit.x.first(3, 0, 0, 0), SPENT);
        Kit.due("first of others", kit.x.first(2, 0, 0, 0), 1);
        for (int machine = 1; machine < 3; machine++) {
            Kit.due("not by machine " + machine, kit.x.find(0, 0, 0, machine, 0) + " " + kit.x.whole(0, 0, machine), "0 0");
        }
        Kit.due("no finding", kit.x.finding(), 2);
        String turns = "(:(:(:){13}){20}){10}" + "(:){20}".repeat(9);
        Kit full = new Kit().pattern(0, turns + "(:){10}").pattern(1, turns + "(:){11}").subject(0, "");
        Kit.due("3000 are not spent", full.x.find(0, 0, 0, 0, 3000) + " " + full.x.steps(), "1 3000");
        Kit.due("3001 are", full.x.find(1, 0, 0, 0, 3000) + " " + full.x.steps(), SPENT + " 3000");
        Kit edge = new Kit().pattern(0, "(:(:\\B){20}){20}").subject(0, "");
        Kit.due("steps of turns", edge.x.find(0, 0, 0, 0, 3000) + " " + edge.x.steps(), "1 820");
    }

    private static void refusal(String text, int one, int two) {
        Kit kit = new Kit().pattern(0, text).subject(0, "ab");
        int[] due = {0, one, two};
        for (int machine = 0; machine < 3; machine++) {
            int[] got = {kit.x.find(0, 0, 0, machine, 3000), kit.x.whole(0, 0, machine), kit.x.all(0, 0, machine), kit.x.replace(0, 0, machine), Math.min(0, kit.x.first(1, 0, 0, machine) + 1)};
            for (int i = 0; i < got.length; i++) {
                boolean refused = got[i] < (i == 4 ? -1 : 0);
                Kit.due(text + " by " + machine + ", call " + i, refused ? got[i] - (i == 4 ? 1 : 0) : 0, due[machine]);
            }
        }
        Kit.due("refusals leave the finding", kit.x.finding(), 2);
    }

    private static void refusesKindAndLarge() {
        refusal("(a)\\1", KIND, KIND);
        refusal("(=a)", KIND, KIND);
        refusal("(~a)", KIND, KIND);
        refusal("(*a)", KIND, KIND);
        refusal("a++", KIND, KIND);
        refusal("(:a?){0,2}", KIND, KIND);
        refusal("(:a|){1,2}", KIND, KIND);
        refusal("(:a?){2}", 0, 0);
        refusal("(:a?){2,}", 0, 0);
        refusal("(:a?)*?", 0, 0);
        refusal("(:a?){0}", 0, 0);
        refusal("^", 0, KIND);
        refusal("a\\b", 0, KIND);
        refusal("(:a{20}){3}", 0, 0);
        refusal("(:a{20}){3}b", 0, LARGE);
        refusal("(:a{10}){18}" + "b", LARGE, LARGE);
        refusal("(:a{19}){9}" + "bcdefghijklmnopqrs", 0, LARGE);
        refusal("(:a{19}){9}" + "bcdefghijklmnopqrst", LARGE, LARGE);
        refusal("(:a{20}){20}(=a)", KIND, KIND);
    }

    private static void refusesToFind() {
        Kit kit = new Kit().pattern(0, "a").subject(0, "ab");
        Kit.due("no such slot", kit.x.find(6, 9, 9, 9, 9), UNKNOWN);
        Kit.due("no such subject", kit.x.find(0, 4, 9, 9, 9) + " " + kit.x.find(0, -1, 9, 9, 9), UNKNOWN + " " + UNKNOWN);
        Kit.due("that is no finding", new Kit().pattern(0, "a").x.find(0, 4, 0, 0, 1), UNKNOWN);
        kit.x.node(0, 0, 11);
        Kit.due("no pattern", kit.x.find(1, 9, 9, 9, 9) + " " + kit.x.finding(), UNKNOWN + " 2");
        kit.x.node(0, 0, 11);
        Kit.due("no subject", kit.x.find(0, 1, 9, 9, 9) + " " + kit.x.finding(), NO_SUBJECT + " 2");
        Kit.due("place -1", kit.x.find(0, 0, -1, 0, 9), OUTSIDE);
        Kit.due("place 3", kit.x.find(0, 0, 3, 0, 9), OUTSIDE);
        Kit.due("place 2", kit.x.find(0, 0, 2, 0, 9), 0);
        Kit.due("machine -1", kit.x.find(0, 0, 0, -1, 9), OUTSIDE);
        Kit.due("machine 3", kit.x.find(0, 0, 0, 3, 9), OUTSIDE);
        Kit.due("steps 0", kit.x.find(0, 0, 0, 0, 0), OUTSIDE);
        Kit.due("steps 3001", kit.x.find(0, 0, 0, 0, 3001), OUTSIDE);
        Kit.due("of machine 1 not looked at", kit.x.find(0, 0, 0, 1, -5), 1);
        Kit.due("of machine 2 not looked at", kit.x.find(0, 0, 0, 2, 99999), 1);
        Kit.due("whole", kit.x.whole(1, 0, 0) + " " + kit.x.whole(0, 1, 9) + " " + kit.x.whole(0, 0, 3), UNKNOWN + " " + NO_SUBJECT + " " + OUTSIDE);
        Kit.due("all", kit.x.all(1, 0, 0) + " " + kit.x.all(0, 1, 9) + " " + kit.x.all(0, 0, 3), UNKNOWN + " " + NO_SUBJECT + " " + OUTSIDE);
    }

    private static void tellsSpans() {
        Kit kit = new Kit().pattern(0, "(a)|(b)").pattern(1, "x").subject(0, "b");
        Kit.due("before any", kit.x.span(0, false) + " " + kit.x.span(-1, false) + " " + kit.x.finding(), UNKNOWN + " " + UNKNOWN + " 2");
        kit.x.find(0, 0, 0, 0, 3000);
        Kit.due("a capture that is none", kit.x.span(1, false) + " " + kit.x.span(1, true), NONE + " " + NONE);
        Kit.due("one that is not", kit.x.span(2, false) + " " + kit.x.span(2, true), "0 1");
        Kit.due("no such capture", kit.x.span(3, true) + " " + kit.x.finding(), OUTSIDE + " 1");
        kit.x.drop(3);
        Kit.due("nor this", kit.x.span(-1, true) + " " + kit.x.finding(), OUTSIDE + " 1");
        Kit.due("captures", kit.x.told(5), 2);
        kit.x.all(1, 0, 0);
        kit.x.first(2, 0, 0, 0);
        kit.x.forget(0);
        Kit.due("they stay", kit.spans(), "0-1 . 0-1");
        kit.x.find(1, 0, 0, 7, 1);
        Kit.due("by a refused call too", kit.spans(), "0-1 . 0-1");
        kit.x.find(1, 0, 0, 1, 1);
        Kit.due("nothing was found", kit.x.span(0, false) + " " + kit.x.told(5), UNKNOWN + " 0");
        kit.pattern(0, "(b)");
        Kit.due("whole", kit.x.whole(0, 0, 2) + " " + kit.spans(), "1 0-1 0-1");
        Kit.due("whole not", kit.x.whole(1, 0, 2) + " " + kit.x.span(0, true), "0 " + UNKNOWN);
    }

    private static void tellsNames() {
        Kit kit = new Kit().pattern(0, "(a)(@zb(@ac))");
        Kit.due("z", kit.x.named(0, 'z'), 2);
        Kit.due("a", kit.x.named(0, 'a'), 3);
        Kit.due("b", kit.x.named(0, 'b'), NONE);
        Kit.due("96", kit.x.named(0, 96), OUTSIDE);
        Kit.due("123", kit.x.named(0, 123), OUTSIDE);
        Kit.due("no pattern", kit.x.named(1, 96) + " " + kit.x.finding(), UNKNOWN + " 2");
        Kit.due("no such slot", kit.x.named(-1, 'a'), UNKNOWN);
    }

    private static void whole(String text, String subject, String due) {
        Kit kit = new Kit().pattern(0, text).subject(0, subject);
        for (int machine = 0; machine < 3; machine++) {
            int answer = kit.x.whole(0, 0, machine);
            Kit.due(text + " is " + subject + " by " + machine, answer == 1 ? kit.spans() : String.valueOf(answer), due);
        }
    }

    private static void tellsWhole() {
        whole("a|ab", "ab", "0-2");
        whole("a|ab", "xab", "0");
        whole("a*?", "aa", "0-2");
        whole("(a|ab)(b?)", "ab", "0-2 0-1 1-2");
        whole("(ab|a)(b?)", "ab", "0-2 0-2 2-2");
        whole("", "", "0-0");
        whole("", "a", "0");
        whole("(a*?)(a*)", "aa", "0-2 0-0 0-2");
        Kit kit = new Kit().pattern(0, "(*a|ab)").subject(0, "ab");
        Kit.due("a cut", kit.x.whole(0, 0, 0), 0);
    }

    private static void all(String text, String subject, String due) {
        Kit kit = new Kit().pattern(0, text).subject(0, subject);
        for (int machine = 0; machine < 3; machine++) {
            int count = kit.x.all(0, 0, machine);
            Kit.due(text + " in " + subject + " by " + machine, count + ": " + kit.numbers(), due);
            Kit.due("a row of numbers", kit.x.told(4) + " " + kit.x.told(3), "1 " + 2 * count);
        }
    }

    private static void tellsAll() {
        all("a", "abaa", "3: 0 1 2 3 3 4");
        all("a*", "baac", "4: 0 0 1 3 3 3 4 4");
        all("a*", "", "1: 0 0");
        all("", "ab", "3: 0 0 1 1 2 2");
        all("x", "ab", "0: ");
        all("a|", "aab", "4: 0 1 1 2 2 2 3 3");
        all("aa", "aaaaa", "2: 0 2 2 4");
        Kit kit = new Kit().pattern(0, "").subject(0, "a".repeat(100));
        Kit.due("101 finds", kit.x.all(0, 0, 2) + " " + kit.x.told(3) + " " + kit.x.out(201), "101 202 100");
        kit = new Kit().pattern(0, "(<a)").subject(0, "aba");
        Kit.due("what stands ahead is seen", kit.x.all(0, 0, 0) + ": " + kit.numbers(), "2: 1 1 3 3");
    }

    private static void replace(String text, String subject, String told, String due) {
        Kit kit = new Kit().pattern(0, text).subject(0, subject);
        for (int machine = 0; machine < 3; machine++) {
            kit.feed(told);
            Kit.due("length", kit.x.replace(0, 0, machine), due.length());
            Kit.due(text + " in " + subject + " by " + told, kit.out(), due);
            Kit.due("the tape, signs", kit.x.told(0) + " " + kit.x.told(4), "0 0");
        }
    }

    private static void replaces() {
        replace("(a)(b)?", "abca", "<$1$$>", "<a$>c<a$>");
        replace("b", "abc", "", "ac");
        replace("", "ab", "-", "-a-b-");
        replace("a*", "baac", "[$0]", "[]b[aa][]c[]");
        replace("(a)|(b)", "ab", "$2$1", "ab");
        replace("x", "ab", "$0", "ab");
        replace("a", "a", "$a$ $$$0", "a $a");
        replace("a", "aa", "$01", "a1a1");
        replace("(\\d)(\\d)", "12-34", "$2$1", "21-43");
        replace("a", "\uffffa\u0000", "b", "\uffffb\u0000");
    }

    private static void refusesToReplace() {
        Kit kit = new Kit().pattern(0, "(a)").pattern(1, "(=a)").subject(0, "a".repeat(100));
        kit.x.print(0);
        kit.feed("$2");
        Kit.due("no such capture", kit.x.replace(0, 0, 0) + " " + kit.x.told(0), STATE + " 2");
        Kit.due("ahead of the kind", kit.x.replace(1, 0, 1), STATE);
        Kit.due("behind the machine", kit.x.replace(1, 0, 3), OUTSIDE);
        kit = new Kit().pattern(0, "(a)").pattern(1, "(=a)").subject(0, "a".repeat(100)).feed("x$$$");
        Kit.due("a single $", kit.x.replace(0, 0, 0) + " " + kit.x.told(0), STATE + " 4");
        kit.feed("$");
        Kit.due("none is single", kit.x.replace(0, 0, 0), 300);
        kit.x.print(0);
        kit.feed("x$0");
        Kit.due("kind", kit.x.replace(1, 0, 1) + " " + kit.x.told(0), KIND + " 3");
        Kit.due("200", kit.x.replace(0, 0, 1), 200);
        kit.feed("abcd");
        Kit.due("400", kit.x.replace(0, 0, 1), 400);
        kit.x.print(0);
        kit.feed("abcde");
        Kit.due("500", kit.x.replace(0, 0, 1) + " " + kit.x.told(0) + " " + kit.x.finding(), ROOM + " 5 4");
        Kit.due("OUT stays", kit.out(), "(a)");
        Kit.due("no pattern", kit.x.replace(2, 0, 0) + " " + kit.x.finding(), UNKNOWN + " 2");
        Kit.due("no subject", kit.x.replace(0, 1, 0), NO_SUBJECT);
        kit = new Kit().pattern(0, "b|" + SLOW).subject(0, "b".repeat(60) + "a".repeat(40)).feed("12345678");
        Kit.due("spent is told ahead of the room", kit.x.replace(0, 0, 0) + " " + kit.x.finding(), SPENT + " 2");
        Kit.due("and of the room alone", kit.x.replace(0, 0, 1) + " " + kit.x.finding(), ROOM + " 4");
    }

    private static void tellsFirst() {
        Kit kit = new Kit().pattern(0, "c").pattern(1, "b.*").pattern(3, "b").pattern(5, "x").subject(0, "abcb");
        for (int machine = 0; machine < 3; machine++) {
            Kit.due("the least place", kit.x.first(0b1001, 0, 0, machine), 3);
            Kit.due("of several the least slot", kit.x.first(0b1011, 0, 0, machine), 1);
            Kit.due("from a place on", kit.x.first(0b1011, 0, 2, machine), 0);
            Kit.due("none", kit.x.first(0b100000, 0, 0, machine), NONE);
            Kit.due("from the end", kit.x.first(0b1011, 0, 4, machine), NONE);
        }
        Kit.due("bits 0", kit.x.first(0, 9, 9, 9), UNKNOWN);
        Kit.due("bits 64", kit.x.first(64, 0, 0, 0) + " " + kit.x.first(65, 0, 0, 0), UNKNOWN + " " + UNKNOWN);
        Kit.due("bits -1", kit.x.first(-1, 0, 0, 0), UNKNOWN);
        kit.x.node(0, 0, 11);
        kit.x.first(64, 0, 0, 0);
        Kit.due("that is no finding", kit.x.finding(), 3);
        Kit.due("no pattern", kit.x.first(0b111, 1, 0, 0) + " " + kit.x.finding(), UNKNOWN + " 2");
        Kit.due("no subject", kit.x.first(1, 1, 9, 9), NO_SUBJECT);
        Kit.due("no such subject", kit.x.first(1, 4, 9, 9), UNKNOWN);
        Kit.due("place", kit.x.first(1, 0, 5, 0), OUTSIDE);
        Kit.due("machine", kit.x.first(1, 0, 0, 3), OUTSIDE);
        kit.pattern(2, "(:a{20}){20}").pattern(4, "(=a)");
        Kit.due("large", kit.x.first(0b000111, 0, 0, 1), LARGE);
        Kit.due("kind ahead of large", kit.x.first(0b010111, 0, 0, 1), KIND);
        Kit.due("machine 0 takes all", kit.x.first(0b010111, 0, 0, 0), 4);
        Kit.due("spans are of find() alone", kit.x.span(0, false), UNKNOWN);
    }

    private static void prefix(String text, String subject, int from, int due) {
        Kit kit = new Kit().pattern(0, text).subject(0, subject);
        Kit.due("prefix of " + subject + " from " + from + " by " + text, kit.x.prefix(0, 0, from), due);
    }

    private static void tellsPrefix() {
        prefix("abc|abd", "abx", 0, 2);
        prefix("abc|abd", "abx", 1, 0);
        prefix("abc|abd", "abd", 0, 3);
        prefix("abc|abd", "abde", 0, 3);
        prefix("abc", "", 0, 0);
        prefix("a*b", "aaaa", 1, 3);
        prefix("a*b", "aaba", 0, 3);
        prefix("", "a", 0, 0);
        prefix("[^\\x0000-\\xffff]", "a", 0, NONE);
        prefix("a[^\\x0000-\\xffff]", "a", 1, NONE);
        prefix("a[^\\x0000-\\xffff]|b", "a", 0, 0);
        prefix("(%ab)*", "AbaBb", 0, 4);
        prefix(".*", "ab\nc", 0, 2);
        Kit kit = new Kit().pattern(0, "^a").pattern(1, "(:a|b)*a(:a|b){6}").pattern(2, "a{20}a{20}a{20}a").subject(0, "a");
        Kit.due("kind", kit.x.prefix(0, 0, 0), KIND);
        Kit.due("outside ahead of the kind", kit.x.prefix(0, 0, 2) + " " + kit.x.prefix(0, 0, -1), OUTSIDE + " " + OUTSIDE);
        Kit.due("large", kit.x.prefix(1, 0, 0), LARGE);
        Kit.due("large by positions", kit.x.prefix(2, 0, 0), LARGE);
        Kit.due("no subject", kit.x.prefix(1, 1, 9), NO_SUBJECT);
        Kit.due("no pattern", kit.x.prefix(3, 1, 9), UNKNOWN);
        Kit.due("no such subject", kit.x.prefix(1, 4, 9), UNKNOWN);
    }
}
