/** Promises 2 to 11: feed, pattern, place, forget, node, part, print, begins, risky, dead. */
public final class PatternsTest {
    private static final int UNKNOWN = PatternWorkshop.UNKNOWN, OUTSIDE = PatternWorkshop.OUTSIDE, NONE = PatternWorkshop.NONE;
    private static final int KIND = PatternWorkshop.KIND, ROOM = PatternWorkshop.ROOM;

    public static void main(String[] args) {
        feeds();
        readsToSlots();
        tellsFaults();
        tellsFaultsOfNumbers();
        tellsTooMany();
        forgets();
        tellsNodes();
        tellsSizes();
        tellsParts();
        prints();
        printsOnlyWithinRoom();
        tellsBeginnings();
        tellsRisky();
        tellsDead();
        Kit.end("PatternsTest");
    }

    private static void feeds() {
        PatternWorkshop x = new PatternWorkshop();
        Kit.due("one", x.feed(1, 0x4141414141414161L), 1);
        Kit.due("only the lowest bytes count", x.feed(2, 0xffffffffffff2020L), 3);
        Kit.due("eight", x.feed(8, 0x7e7e7e7e7e7e7e7eL), 11);
        Kit.due("n = 0", x.feed(0, 97), OUTSIDE);
        Kit.due("n = 9", x.feed(9, 97), OUTSIDE);
        Kit.due("n = -1", x.feed(-1, 97), OUTSIDE);
        Kit.due("sign 31", x.feed(1, 31), OUTSIDE);
        Kit.due("sign 127", x.feed(1, 127), OUTSIDE);
        Kit.due("sign 128", x.feed(1, 128), OUTSIDE);
        Kit.due("a wrong one ahead", x.feed(2, 0x0061), OUTSIDE);
        Kit.due("a wrong one behind", x.feed(2, 0x6100), OUTSIDE);
        Kit.due("nothing came", x.told(0), 11);
        for (int i = 0; i < 23; i++) {
            x.feed(8, 0x6161616161616161L);
        }
        Kit.due("195", x.told(0), 195);
        Kit.due("six more", x.feed(6, 0x616161616161L), ROOM);
        Kit.due("a wrong byte is told ahead of the room", x.feed(6, 0), OUTSIDE);
        Kit.due("five more", x.feed(5, 0x6161616161L), 200);
        Kit.due("201", x.feed(1, 97), ROOM);
        Kit.due("no finding", x.finding(), 0);
    }

    private static void readsToSlots() {
        Kit kit = new Kit();
        Kit.due("no text", kit.read(0, ""), 1);
        Kit.due("it is an empty row", kit.x.node(0, 0, 0) + " " + kit.x.node(0, 0, 1), "5 0");
        Kit.due("slot 6", kit.feed("ab").x.pattern(6), UNKNOWN);
        Kit.due("slot -1", kit.x.pattern(-1), UNKNOWN);
        Kit.due("the tape stays", kit.x.told(0), 2);
        Kit.due("slot 5", kit.x.pattern(5), 3);
        Kit.due("the tape is empty", kit.x.told(0), 0);
        Kit.due("in place of what was there", kit.read(5, "a"), 1);
        Kit.due("a fault", kit.read(5, "a)"), -21);
        Kit.due("the tape is empty", kit.x.told(0), 0);
        Kit.due("the slot stays", kit.x.node(5, 0, 10), 97);
        Kit.due("two patterns", kit.x.told(1), 2);
        Kit.due("nodes", kit.read(0, "|".repeat(200)), 202);
        Kit.due("nodes", kit.read(0, "(|)".repeat(9) + "|".repeat(173)), 1 + 1 + 9 * 4 + 173);
        Kit.due("a comment is nothing", kit.read(0, "(#a*)(#)(:(#b)a(#()|(#)b)"), 3);
        Kit.due("(: is what it holds", kit.read(0, "(:(:(:a)))"), 1);
    }

    private static void fault(String text, int kind, int place) {
        Kit kit = new Kit();
        Kit.due(text, kit.read(0, text) + " at " + kit.x.place(), -20 - kind + " at " + place);
    }

    private static void tellsFaults() {
        Kit fine = new Kit();
        Kit.due("place before any", fine.x.place(), NONE);
        fine.read(0, "a)");
        Kit.due("place of a fault", fine.x.place(), 1);
        fine.x.pattern(9);
        Kit.due("a refused call leaves the place", fine.x.place(), 1);
        fine.read(0, "a");
        Kit.due("place without a fault", fine.x.place(), NONE);
        String[] first = {"*", "+", "?", "{2}", "}", "]", ")", "*a"};
        for (String text : first) {
            fault(text, 1, 0);
        }
        String[] second = {"a)", "(*", "\\", "\\a", "\\0", "\\Z", "\\D", "[", "[]", "[[", "[-", "(?", "(+", "({", "|*", "\\X"};
        for (String text : second) {
            fault(text, 1, text.equals("(*") ? 2 : 1);
        }
        String[] third = {"a**", "a*+*", "a{", "a{}", "a{,2}", "a{x", "\\@", "\\@1", "\\@A", "\\x", "\\xA", "[^", "[^]", "[^^", "[a", "[a^", "[a[", "(@", "(@A)", "(@)", "[\\d", "[\\b", "[\\1", "(#", "(a", "a|*", "(:*)", "(%*)"};
        for (String text : third) {
            fault(text, 1, text.equals("a*+*") ? 3 : 2);
        }
        fault("a{2", 1, 3);
        fault("a{2x}", 1, 3);
        fault("a{111}", 1, 4);
        fault("a{1,", 1, 4);
        fault("a{1,x", 1, 4);
        fault("a{1,2", 1, 5);
        fault("a{1,2?", 1, 5);
        fault("a{2}{2}", 1, 4);
        fault("\\x00", 1, 4);
        fault("\\x00g0", 1, 4);
        fault("\\x000A", 1, 5);
        fault("[a-]", 1, 3);
        fault("[a-", 1, 3);
        fault("[a-b-c]", 1, 4);
        fault("[\\x00-", 1, 5);
        fault("(#abc", 1, 5);
        fault("a(#)*", 1, 4);
        fault("(#)*", 1, 3);
        fault("((a)", 1, 4);
        fault("(a))", 1, 3);
    }

    private static void tellsFaultsOfNumbers() {
        fault("a{21}", 3, 2);
        fault("a{21x", 3, 2);
        fault("a{99", 3, 2);
        fault("a{1,21}", 3, 4);
        fault("a{3,2}", 3, 4);
        fault("a{12,2", 3, 5);
        fault("[b-a]", 3, 3);
        fault("[b-\\x0061]", 3, 3);
        fault("[b-\\x006]", 1, 8);
        fault("\\1", 3, 1);
        fault("(a)\\2", 3, 4);
        fault("\\1(a)", 3, 1);
        fault("\\@a", 3, 2);
        fault("(@ab)\\@b", 3, 7);
        fault("(@aa)(@aa)", 3, 7);
        fault("(:a)\\1", 3, 5);
        Kit kit = new Kit();
        Kit.due("20 is fine", kit.read(0, "a{20,20}"), 2);
        Kit.due("a capture that is open was begun", kit.read(0, "(a\\1)"), 4);
        Kit.due("a name that is open was begun", kit.read(0, "(@qa\\@q)"), 4);
        Kit.due("a set of one place", kit.read(0, "[a-a]"), 1);
    }

    private static void tellsTooMany() {
        Kit kit = new Kit();
        Kit.due("100 items", kit.read(0, "a*".repeat(50)), 101);
        fault("a".repeat(101), 2, 100);
        fault("a*".repeat(50) + "b", 2, 100);
        fault("a".repeat(100) + "*", 2, 100);
        fault("a".repeat(100) + "(", 2, 100);
        fault("a".repeat(100) + "\\", 2, 100);
        fault("a".repeat(100) + "[", 2, 100);
        fault("a".repeat(100) + "]", 1, 100);
        fault("a".repeat(99) + "**", 1, 100);
        fault("a".repeat(100) + "|*", 1, 101);
        Kit.due("a comment is no item", kit.read(0, "a".repeat(100) + "(#x)|"), 103);
        Kit.due("9 captures", kit.read(0, "()".repeat(9)), 19);
        fault("()".repeat(10), 2, 18);
        fault("()".repeat(9) + "(", 2, 18);
        fault("()".repeat(9) + "(@", 2, 18);
        Kit.due("other groups do not count", kit.read(0, "()".repeat(9) + "(=)(:)(*)(%)"), 26);
        Kit.due("a group within 8", kit.read(0, "(:".repeat(9) + ")".repeat(9)), 1);
        fault("(:".repeat(10), 2, 18);
        fault("(:".repeat(9) + "(=", 2, 18);
        Kit.due("a comment is no group", kit.read(0, "(:".repeat(9) + "(#)" + ")".repeat(9)), 1);
        fault("(:".repeat(9), 1, 18);
    }

    private static void forgets() {
        Kit kit = new Kit();
        Kit.due("forget of none", kit.x.forget(0) + " " + kit.x.finding(), UNKNOWN + " 2");
        Kit.due("no such slot", kit.x.forget(6) + " " + kit.x.forget(-1), UNKNOWN + " " + UNKNOWN);
        kit.pattern(0, "a");
        Kit.due("forget", kit.x.forget(0), 1);
        Kit.due("it is forgotten", kit.x.node(0, 0, 0), UNKNOWN);
        Kit.due("none is there", kit.x.told(1), 0);
        PatternWorkshop fresh = new PatternWorkshop();
        fresh.forget(6);
        Kit.due("no such slot is no finding", fresh.finding(), 0);
    }

    /** What node() tells of a node, 0 to 6, and then what of 10 to 18 is no refusal. */
    private static String all(Kit kit, int k) {
        StringBuilder s = new StringBuilder();
        for (int what = 0; what <= 18; what++) {
            int told = kit.x.node(0, k, what);
            if (what < 7 || what > 9 && told != KIND) {
                s.append(s.length() == 0 ? "" : " ").append(what > 9 ? what + ":" : "").append(told);
            }
        }
        return s.toString();
    }

    private static void tellsNodes() {
        Kit kit = new Kit();
        kit.pattern(0, "(@na|\\d+?)[^a-cx]\\1^(%.(~a)|(*b){2,5}+)\\xffff$");
        Kit.due("row", all(kit, 0), "5 7 -1 29 12 0 0");
        Kit.due("capture", all(kit, 1), "8 1 0 6 3 0 0 14:1");
        Kit.due("choice", all(kit, 2), "6 2 1 5 3 0 0");
        Kit.due("sign", all(kit, 3), "0 0 2 1 1 0 0 10:97");
        Kit.due("loop", all(kit, 4), "7 1 2 3 2 0 0 16:1 17:-1 18:1");
        Kit.due("set of \\d", all(kit, 5), "2 1 4 1 1 0 0 11:0");
        Kit.due("turned set", all(kit, 6), "2 2 0 1 1 0 0 11:1");
        Kit.due("back", all(kit, 7), "4 0 0 1 0 1 0 13:1");
        Kit.due("edge ^", all(kit, 8), "3 0 0 1 0 1 0 12:0");
        Kit.due("case", all(kit, 9), "11 1 0 17 7 0 0");
        Kit.due("choice within case", all(kit, 10), "6 2 9 16 7 0 1");
        Kit.due("row within case", all(kit, 11), "5 2 10 4 2 0 1");
        Kit.due("any", all(kit, 12), "1 0 11 1 1 0 1");
        Kit.due("look ~", all(kit, 13), "9 1 11 2 1 1 1 15:3");
        Kit.due("loop that cuts", all(kit, 15), "7 1 10 11 5 0 1 16:2 17:5 18:2");
        Kit.due("cut", all(kit, 16), "10 1 15 2 1 0 1");
        Kit.due("sign 65535", all(kit, 18), "0 0 0 1 1 0 0 10:65535");
        Kit.due("edge $", all(kit, 19), "3 0 0 1 0 1 0 12:1");
        Kit.due("no such node", kit.x.node(0, 20, 0) + " " + kit.x.node(0, -1, 0), OUTSIDE + " " + OUTSIDE);
        for (int what : new int[] {-1, 7, 8, 9, 19, 100}) {
            Kit.due("what " + what, kit.x.node(0, 0, what), OUTSIDE);
        }
        Kit.due("no such slot", kit.x.node(6, 0, 0), UNKNOWN);
        Kit.due("no pattern", kit.x.node(4, 0, 99) + " " + kit.x.finding(), UNKNOWN + " 2");
        Kit.due("another sort", kit.x.node(0, 0, 10) + " " + kit.x.finding(), KIND + " 3");
        Kit.due("looks", looks(), "0 1 2 3");
        Kit.due("edges", edges(), "0 1 2 3");
    }

    private static String looks() {
        Kit kit = new Kit().pattern(0, "(=a)(!a)(<a)(~a)");
        return kit.x.node(0, 1, 15) + " " + kit.x.node(0, 3, 15) + " " + kit.x.node(0, 5, 15) + " " + kit.x.node(0, 7, 15);
    }

    private static String edges() {
        Kit kit = new Kit().pattern(0, "^$\\b\\B");
        return kit.x.node(0, 1, 12) + " " + kit.x.node(0, 2, 12) + " " + kit.x.node(0, 3, 12) + " " + kit.x.node(0, 4, 12);
    }

    private static void size(String text, int size, int positions, int empty) {
        Kit kit = new Kit().pattern(0, text);
        Kit.due(text, kit.x.node(0, 0, 3) + " " + kit.x.node(0, 0, 4) + " " + kit.x.node(0, 0, 5), size + " " + positions + " " + empty);
    }

    private static void tellsSizes() {
        size("", 1, 0, 1);
        size("a{0}", 2, 1, 1);
        size("a{1}", 2, 1, 0);
        size("a{0,0}", 2, 1, 1);
        size("a{3}", 4, 3, 0);
        size("a{3,}", 5, 4, 0);
        size("a*", 2, 1, 1);
        size("a+", 3, 2, 0);
        size("(ab){2,3}", 13, 6, 0);
        size("a|", 3, 1, 1);
        size("(:a?b?){20}", 101, 40, 1);
        size("(=a)", 2, 1, 1);
        size("(*a)", 2, 1, 0);
        size("(:^\\b)*", 4, 0, 1);
        size("(:(:(:(:a{20}){20}){20}){20}){20}", 20000, 20000, 0);
        size("(:(:a{20}){20}){20}", 8421, 8000, 0);
        size("(a\\1)", 4, 1, 0);
    }

    private static String parts(Kit kit, String set) {
        kit.pattern(0, set);
        StringBuilder s = new StringBuilder();
        for (int i = 0; i < kit.x.node(0, 0, 1); i++) {
            s.append(s.length() == 0 ? "" : " ").append(kit.x.part(0, 0, i, false)).append("-").append(kit.x.part(0, 0, i, true));
        }
        return s.toString();
    }

    private static void tellsParts() {
        Kit kit = new Kit();
        Kit.due("parts by their begins", parts(kit, "[zax]"), "97-97 120-120 122-122");
        Kit.due("touching parts", parts(kit, "[cab]"), "97-99");
        Kit.due("overlapping parts", parts(kit, "[d-fa-eb]"), "97-102");
        Kit.due("one within another", parts(kit, "[a-zc-d~]"), "97-122 126-126");
        Kit.due("\\w", parts(kit, "\\w"), "48-57 65-90 95-95 97-122");
        Kit.due("all signs", parts(kit, "[\\x8000-\\xffff\\x0000-\\x7fff]"), "0-65535");
        Kit.due("turned", parts(kit, "[^\\]\\x0041-B]"), "65-66 93-93");
        Kit.due("part 2", kit.x.part(0, 0, 2, false) + " " + kit.x.finding(), OUTSIDE + " 1");
        Kit.due("part -1", kit.x.part(0, 0, -1, true) + " " + kit.x.finding(), OUTSIDE + " 1");
        kit.pattern(1, "a");
        Kit.due("no set", kit.x.part(1, 0, 7, false) + " " + kit.x.finding(), KIND + " 3");
        Kit.due("no node", kit.x.part(1, 1, 0, false) + " " + kit.x.finding(), OUTSIDE + " 3");
        Kit.due("no pattern", kit.x.part(2, 1, 0, false) + " " + kit.x.finding(), UNKNOWN + " 2");
    }

    private static void print(String text, String due) {
        Kit kit = new Kit().pattern(0, text);
        Kit.due("the length of " + text, kit.x.print(0), due.length());
        Kit.due("print of " + text, kit.out(), due);
        Kit.due("it is a row of signs", kit.x.told(4), 0);
        int nodes = kit.read(1, due);
        Kit.due("read again", nodes, kit.read(0, text));
        kit.x.print(1);
        Kit.due("printed again", kit.out(), due);
    }

    private static void prints() {
        String[] same = {"", "a", ".", "^$\\b\\B", "a|b|", "(a)", "(@qa)", "(=a)(!b)(<c)(~d)(*e)(%f)", "a*b+c?", "a*?b+?c??", "a*+b++c?+", "a{2}b{2,}c{2,3}d{0}e{20}?", "(a|b)*", "\\\\\\|\\*\\+\\?\\{\\}\\(\\)\\[\\]\\.\\^\\$", "[\\[\\]\\^\\-\\\\]", "(:)a", "(:)*", "(:a|b)c", "(:ab)*", "(:a*)*", "(:a|b)|c", "\\x0000\\x007f\\xffff", "(a)\\1", " -,:=!<~%@#"};
        for (String text : same) {
            print(text, text.equals("[\\[\\]\\^\\-\\\\]") ? "[\\-\\[-\\^]" : text);
        }
        print("\\:\\-\\x0061", ":-a");
        print("\\d\\w", "[0-9][0-9A-Z_a-z]");
        print("[^cab]", "[^a-c]");
        print("[ab][a][\\x0000-\\x0001]", "[a-b][a][\\x0000-\\x0001]");
        print("(@na)\\@n", "(@na)\\1");
        print("a{0,}b{1,}c{0,1}d{1}e{2,2}f{02,13}", "a*b+c?d{1}e{2}f{2,13}");
        print("(:a)(:bc)(:d|e)(:f*)", "a(:bc)(:d|e)f*");
        print("(:ab)|(:c|d)", "ab|(:c|d)");
        print("(:(:a|b))", "a|b");
        print("(#x)a(#y)", "a");
        print("(\\:)(\\=*)(\\!a)(\\<|b)(\\~)(\\%)(\\x0040)(\\#)", "(\\x003a)(\\x003d*)(\\x0021a)(\\x003c|b)(\\x007e)(\\x0025)(\\x0040)(\\x0023)");
        print("(a:)(|:)(@b:)((:):)(=:)(:::)*", "(a:)(|:)(@b:)((:):)(=:)(:::)*");
        print("(\\*)", "(\\*)");
        print("(%\\:)(*\\=)(=\\!)", "(%:)(*=)(=!)");
    }

    private static void printsOnlyWithinRoom() {
        Kit kit = new Kit().pattern(0, "\\w".repeat(33) + "abcd");
        Kit.due("400 signs", kit.x.print(0), 400);
        kit.pattern(1, "\\w".repeat(33) + "abcde").pattern(0, "xyz");
        kit.x.print(0);
        Kit.due("401 signs", kit.x.print(1) + " " + kit.x.finding(), ROOM + " 4");
        Kit.due("OUT stays", kit.out(), "xyz");
        Kit.due("no pattern", kit.x.print(3) + " " + kit.x.finding(), UNKNOWN + " 2");
        Kit.due("no such slot", kit.x.print(6), UNKNOWN);
    }

    private static void begins(String text, String yes, String no) {
        Kit kit = new Kit().pattern(0, text);
        for (char c : yes.toCharArray()) {
            Kit.due(text + " begins with " + (int) c, kit.x.begins(0, c), 1);
        }
        for (char c : no.toCharArray()) {
            Kit.due(text + " begins with " + (int) c, kit.x.begins(0, c), 0);
        }
    }

    private static void tellsBeginnings() {
        begins("ab", "a", "b");
        begins("a?b*c", "abc", "d");
        begins("a?b+c", "ab", "c");
        begins("a|b|(c)", "abc", "d");
        begins(".", "a\u0000\uffff\u000b", "\n");
        begins("[^a-c]", "d\n\uffff", "abc");
        begins("(%a[^bC])", "aA", "bdc");
        begins("(%[^bC])", "aA", "bBcC");
        begins("(%[B-Yc])", "bByYcC", "aAzZ");
        begins("^\\b(=x)a", "a", "x");
        begins("(x?)\\1a", "axz\u1234", "");
        begins("a{0}b", "b", "a");
        begins("a{0}", "", "a");
        begins("(*a)(*b)", "a", "b");
        begins("", "", "a");
        begins("(!a)(~a)", "", "a");
        Kit kit = new Kit().pattern(0, ".");
        Kit.due("65535", kit.x.begins(0, 65535), 1);
        Kit.due("65536", kit.x.begins(0, 65536), OUTSIDE);
        Kit.due("-1", kit.x.begins(0, -1), OUTSIDE);
        Kit.due("no pattern", kit.x.begins(1, -1), UNKNOWN);
    }

    private static void risky(String text, int due) {
        Kit.due(text + " is risky", new Kit().pattern(0, text).x.risky(0), due);
    }

    private static void tellsRisky() {
        risky("(a*)*", 0);
        risky("(:a*)*", 0);
        risky("(a*b)*", 0);
        risky("(ab*)*", NONE);
        risky("x(a+)+", 2);
        risky("(a+){2,}", 0);
        risky("(a+){2,9}", NONE);
        risky("(a{1,9})*", NONE);
        risky("(b|(=a*)a)*", 0);
        risky("(b(:ab*c)*)*", 0);
        risky("(b(:ac*c)*)*", NONE);
        risky("(c(:ab*a*)*)*", 4);
        risky("(%(:A*b))+", 0);
        risky("(%(:A*b)+)", 1);
        risky("(:[a-f]*[f-h])*", 0);
        risky("(:x[^a]*)*", 0);
        risky("(:a[^a]*)*", NONE);
        risky("(:\\d*+x)*?", 0);
        risky("(a|)*", NONE);
        risky("((b)|\\2*)*", 0);
        Kit kit = new Kit();
        Kit.due("no pattern", kit.x.risky(0) + " " + kit.x.finding(), UNKNOWN + " 2");
        Kit.due("no such slot", kit.x.risky(-1), UNKNOWN);
    }

    private static String dead(String text) {
        Kit kit = new Kit().pattern(0, text);
        StringBuilder s = new StringBuilder();
        for (int k = 0; k == 0 || kit.x.dead(0, k - 1) != NONE; k++) {
            s.append(s.length() == 0 ? "" : " ").append(kit.x.dead(0, k));
        }
        return s.toString();
    }

    private static void tellsDead() {
        Kit.due("a|b|a|b|a", dead("a|b|a|b|a"), "3 4 5 -1");
        Kit.due("||", dead("||"), "2 3 -1");
        Kit.due("a|A", dead("a|A"), "-1");
        Kit.due("captures", dead("(a)|(a)"), "3 -1");
        Kit.due("names", dead("(a)|(@na)"), "-1");
        Kit.due("sets", dead("\\d|[0-9]|[0-8]|[^0-9]"), "2 -1");
        Kit.due("loops", dead("a{0,}|a*|a*?|a+|a{1,}|a*+"), "3 9 -1");
        Kit.due("rows within", dead("ab(:c|d|c)|ab(:c|d|c)"), "7 8 14 -1");
        Kit.due("printed by itself", dead("((:a|b)|(:a|b)|\\:|:)"), "5 9 -1");
        Kit.due("looks", dead("(=a)|(!a)|(<a)|(~a)|(*a)|(%a)|a|(=a)"), "14 -1");
        Kit.due("edges and backs", dead("(a)(:^|$|\\1|^|\\1)"), "7 8 -1");
        Kit.due("of no choice", dead("aa"), "-1");
        Kit.due("a choice within a row", dead("a(:b|c|b)b"), "5 -1");
        Kit kit = new Kit().pattern(0, "a|a");
        Kit.due("k = -1", kit.x.dead(0, -1), OUTSIDE);
        Kit.due("far off", kit.x.dead(0, 2147483647), NONE);
        Kit.due("no pattern", kit.x.dead(1, -1) + " " + kit.x.finding(), UNKNOWN + " 2");
    }
}
