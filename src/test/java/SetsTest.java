/** Promises 25 to 28: table, least, compare, parting. */
public final class SetsTest {
    private static final int UNKNOWN = PatternWorkshop.UNKNOWN, KIND = PatternWorkshop.KIND, LARGE = PatternWorkshop.LARGE, NONE = PatternWorkshop.NONE;

    public static void main(String[] args) {
        countsStates();
        refusesTables();
        compares();
        parts();
        Kit.end("SetsTest");
    }

    private static void states(String text, int table, int least) {
        Kit kit = new Kit().pattern(0, text);
        Kit.due("table and least of " + text, kit.x.table(0) + " " + kit.x.least(0), table + " " + least);
    }

    private static void countsStates() {
        states("", 2, 2);
        states("a", 3, 3);
        states("a*", 3, 2);
        states("a+", 4, 3);
        states("a?", 3, 3);
        states("a{0}", 2, 2);
        states("a{2}", 4, 4);
        states("a{2,}", 5, 4);
        states("a{2,4}", 6, 6);
        states("(:a?){3}", 5, 5);
        states("[\\x0000-\\xffff]*", 2, 1);
        states("[^\\x0000-\\xffff]", 2, 1);
        states("[^\\x0000-\\xffff]*", 2, 2);
        states(".*", 3, 2);
        states("a|b", 4, 3);
        states("ab|cb", 6, 4);
        states("(:a|b)*a(:a|b)", 6, 5);
        states("a[^\\x0000-\\xffff]", 3, 1);
        states("(%a)", 3, 3);
        states("(%[a-c])B", 4, 4);
        states("(:a|a)b", 4, 4);
        states("(a|b)*?", 4, 2);
        states("(:a*b?)*", 4, 2);
        states("(:a{10}){5}", 52, 52);
        states("a{20}a{20}a{18}", 60, 60);
    }

    private static void refusesTables() {
        Kit kit = new Kit().pattern(0, "a").pattern(1, "^a").pattern(2, "a{20}a{20}a{19}").pattern(3, "a{20}a{20}a{20}a").pattern(4, "(:(:a|b)(:a|b)*?)*a(:a|b){5}");
        int[] due = {3, KIND, LARGE, LARGE, LARGE, UNKNOWN};
        for (int slot = 0; slot < 6; slot++) {
            int compared = slot == 0 ? 3 : due[slot];
            Kit.due("table " + slot, kit.x.table(slot), due[slot]);
            Kit.due("least " + slot, kit.x.least(slot), due[slot]);
            Kit.due("compare " + slot, kit.x.compare(0, slot) + " " + kit.x.compare(slot, 0), compared + " " + compared);
            int parted = slot == 0 ? NONE : due[slot];
            Kit.due("parting " + slot, kit.x.parting(0, slot) + " " + kit.x.parting(slot, 0), parted + " " + parted);
        }
        Kit.due("kind ahead of large", kit.x.compare(2, 1) + " " + kit.x.parting(2, 1), KIND + " " + KIND);
        Kit.due("unknown ahead of kind", kit.x.compare(1, 5) + " " + kit.x.parting(1, 5) + " " + kit.x.finding(), UNKNOWN + " " + UNKNOWN + " 2");
        Kit.due("no such slot", kit.x.compare(0, 6) + " " + kit.x.parting(-1, 0) + " " + kit.x.table(6) + " " + kit.x.least(-1), "-2 -2 -2 -2");
    }

    private static void compare(String a, String b, int due) {
        Kit kit = new Kit().pattern(0, a).pattern(1, b);
        Kit.due(a + " compared with " + b, kit.x.compare(0, 1), due);
        int turned = due == 1 ? 2 : due == 2 ? 1 : due;
        Kit.due(b + " compared with " + a, kit.x.compare(1, 0), turned);
    }

    private static void compares() {
        compare("a", "a", 3);
        compare("a|ab", "ab|a", 3);
        compare("a*", "a+", 2);
        compare("a", "b", 0);
        compare("a", "a|b", 1);
        compare("(:a|b)*", "(:a*b*)*", 3);
        compare("(%a)", "[aA]", 3);
        compare("(%[^a])", "[^aA]", 3);
        compare(".|\\x000a", "[\\x0000-\\xffff]", 3);
        compare("[^\\x0000-\\xffff]", "a", 1);
        compare("a[^\\x0000-\\xffff]", "[^\\x0000-\\xffff]", 3);
        compare("(:aa)*", "(:aaa)*", 0);
        compare("(:aaaa)*", "(:aa)*", 1);
        compare("a{2,4}", "aaa?a?", 3);
        compare("\\d", "\\w", 1);
        compare("(a*?)*?", "a*", 3);
    }

    private static void parting(String a, String b, String due) {
        Kit kit = new Kit().pattern(0, a).pattern(1, b);
        for (int turn = 0; turn < 2; turn++) {
            int length = kit.x.parting(turn, 1 - turn);
            Kit.due(a + " parted from " + b, length + " " + kit.out(), due.length() + " " + due);
            Kit.due("a row of signs", kit.x.told(4), 0);
        }
    }

    private static void parts() {
        parting("a*", "a+", "");
        parting("a", "b", "a");
        parting("ab|ba", "ab", "ba");
        parting("abc", "abd", "abc");
        parting("a|b|c", "a", "b");
        parting(".", "[\\x0000-\\xffff]", "\n");
        parting("[^a-c]", "[^a-b]", "c");
        parting("a[b-d]", "a[c-e]", "ab");
        parting("a\\xffff", "b", "b");
        parting("aa|b.", "aa", "b\u0000");
        parting("(%b)", "b", "B");
        parting("a", "a|\\xffff", "\uffff");
        parting("[\\x0000-\\xfffe]", "[\\x0000-\\xffff]", "\uffff");
        parting("[\\x0001-\\xffff]", "[\\x0000-\\xffff]", "\u0000");
        parting("(%[^Y-b])", "[^A-BY-by]", "z");
        parting("(:aa)*", "(:aaa)*", "aa");
        parting("(:a|b)*", "(:a|b){0,3}", "aaaa");
        parting("a*b", "a{0,19}b", "a".repeat(20) + "b");
        parting("(:[x-z]a)*", "(:[w-y]a)*", "wa");
        Kit kit = new Kit().pattern(0, "a").pattern(1, "a|a");
        kit.x.print(1);
        Kit.due("equal", kit.x.parting(0, 1), NONE);
        Kit.due("OUT stays", kit.out(), "a|a");
        Kit longest = new Kit().pattern(0, "(:a{20}a{20}a{18})*").pattern(1, "(:a{20}a{20}a{17})*");
        Kit.due("a long one", longest.x.parting(0, 1), 57);
    }
}
