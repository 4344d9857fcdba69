/** The boundary cases that the document's terms name, sentence by sentence: texts, trees, and prints. */
public final class TermEdgesTest {
    private static final int NONE = PatternWorkshop.NONE, UNKNOWN = PatternWorkshop.UNKNOWN, OUTSIDE = PatternWorkshop.OUTSIDE;
    private static final int ROOM = PatternWorkshop.ROOM, NO_SUBJECT = PatternWorkshop.NO_SUBJECT;
    private static final String NOT_PLAIN = "\\|*+?{}()[].^$";

    public static void main(String[] args) {
        lastsForAllItsCalls();
        hasSlotsAndSubjects();
        hasSigns();
        readsPlainSigns();
        readsEscapes();
        readsNames();
        readsSets();
        readsMarks();
        readsComments();
        readsLoops();
        tellsTheFirstFault();
        tellsTooMany();
        tellsWrongValues();
        numbersCaptures();
        makesTrees();
        joinsParts();
        printsSigns();
        printsSetsAndBacks();
        printsLoops();
        printsGroups();
        Edges.end("TermEdgesTest", 1, 0);
    }

    /** What a text is read to: the sorts of its nodes, or its fault and place. */
    private static String read(String text) {
        Kit kit = new Kit();
        int nodes = kit.read(0, text);
        if (nodes < 0) {
            return "fault " + (-20 - nodes) + " at " + kit.x.place();
        }
        StringBuilder s = new StringBuilder();
        for (int k = 0; k < nodes; k++) {
            s.append(k == 0 ? "" : " ").append(kit.x.node(0, k, 0));
        }
        return s.toString();
    }

    private static void reads(String text, String due) {
        Edges.due("the text " + text, read(text), due);
    }

    private static void lastsForAllItsCalls() {
        Edges.says("An object is used for at most 512 calls after it has been made; what later calls answer is free.");
        PatternWorkshop x = new PatternWorkshop();
        for (int i = 1; i <= 170; i++) {
            x.feed(3, 0x28616aL + i % 2);
            Edges.due("a fault by call " + (3 * i - 1), x.pattern(i % 6), -21);
            Edges.due("its place by call " + 3 * i, x.place(), 3);
        }
        Edges.due("call 511", x.feed(2, 0x612aL), 2);
        Edges.due("call 512", x.pattern(5), 2);
    }

    private static void hasSlotsAndSubjects() {
        Edges.says("Slots of patterns are 0 .. 5, SUBJECTS 0 .. 3; all are nothing at first.");
        Kit kit = new Kit();
        for (int slot = 0; slot < 6; slot++) {
            Edges.due("slot " + slot + " at first", kit.x.forget(slot), UNKNOWN);
            Edges.due("slot " + slot, kit.read(slot, "a") + " " + kit.x.told(1), "1 " + (slot + 1));
        }
        for (int subject = 0; subject < 4; subject++) {
            Edges.due("subject " + subject + " at first", kit.x.drop(subject), NO_SUBJECT);
            Edges.due("subject " + subject, kit.x.put(subject, 1, 97) + " " + kit.x.told(2), "1 " + (subject + 1));
        }
        for (int slot : new int[] {-1, 6, Integer.MIN_VALUE, Integer.MAX_VALUE}) {
            Edges.due("slot " + slot, kit.x.pattern(slot), UNKNOWN);
        }
        for (int subject : new int[] {-1, 4, Integer.MIN_VALUE, Integer.MAX_VALUE}) {
            Edges.due("subject " + subject, kit.x.put(subject, 1, 97), UNKNOWN);
        }
    }

    private static void hasSigns() {
        Edges.says("SIGNS are 0 .. 65535.");
        Kit kit = new Kit().subject(0, "\u0000\uffff").pattern(0, "\\x0000\\xffff");
        Edges.due("both ends", kit.x.whole(0, 0, 0) + " " + (int) kit.x.sign(0, 0) + " " + (int) kit.x.sign(0, 1), "1 0 65535");
        Edges.says("LETTERS are A to Z and a to z; the OTHER CASE of one is the same letter great or small; WORD signs are LETTERS, 0 to 9 and _.");
        Kit letters = new Kit().pattern(0, "(%[\\x0000-\\xffff])").pattern(1, "\\w").pattern(2, "(%[a-z])").pattern(3, "(%[A-Z])");
        for (char c : "@AZ[`az{/09:_^\u0000\uffff\u00c1\u00e1\u0141\u0161\u212a".toCharArray()) {
            boolean letter = c >= 'A' && c <= 'Z' || c >= 'a' && c <= 'z';
            boolean word = letter || c >= '0' && c <= '9' || c == '_';
            Edges.due("sign " + (int) c + " is a word sign", letters.x.begins(1, c), word ? 1 : 0);
            Edges.due("sign " + (int) c + " is a letter", letters.x.begins(2, c) + " " + letters.x.begins(3, c), letter ? "1 1" : "0 0");
        }
        for (int c = 'a'; c <= 'z'; c++) {
            Kit one = new Kit().pattern(0, "(%" + (char) c + ")").pattern(1, "(%" + (char) (c - 32) + ")");
            Edges.due("the other case of " + (char) c, one.x.begins(0, c - 32) + " " + one.x.begins(1, c) + " " + one.x.begins(0, c + 1), "1 1 0");
        }
    }

    private static void readsPlainSigns() {
        Edges.says("TEXTS OF PATTERNS are on THE TAPE (signs 32 to 126, 200 at most).");
        PatternWorkshop x = new PatternWorkshop();
        for (int c = 0; c < 256; c++) {
            Edges.due("the byte " + c, x.feed(1, c) > 0, c >= 32 && c <= 126);
        }
        for (int i = x.told(0); i < 200; i++) {
            x.feed(1, 97);
        }
        Edges.due("200 and one more", x.told(0) + " " + x.feed(1, 97) + " " + x.told(0), "200 " + ROOM + " 200");
        Edges.says("plain: a sign that is none of \\ | * + ? { } ( ) [ ] . ^ $");
        String[] due = {"fault 1 at 1", "6 5 5", "fault 1 at 0", "fault 1 at 0", "fault 1 at 0", "fault 1 at 0", "fault 1 at 0", "fault 1 at 1", "fault 1 at 0", "fault 1 at 1", "fault 1 at 0", "1", "3", "3"};
        for (int c = 32; c < 127; c++) {
            int at = NOT_PLAIN.indexOf(c);
            reads(String.valueOf((char) c), at < 0 ? "0" : due[at]);
        }
    }

    private static void readsEscapes() {
        Edges.says("escape = 'b' | 'B' | 'd' | 'w' | '1' .. '9' | '@' small | 'x' hex hex hex hex | a sign that is no LETTER, digit, nor @");
        for (int c = 32; c < 127; c++) {
            String due = Character.isLetterOrDigit(c) ? "fault 1 at 1" : "0";
            due = c == 'b' || c == 'B' ? "3" : c == 'd' || c == 'w' ? "2" : c == '@' || c == 'x' ? "fault 1 at 2" : due;
            due = c >= '1' && c <= '9' ? "fault 3 at 1" : due;
            reads("\\" + (char) c, due);
        }
        reads("()\\1\\10", "5 8 5 4 4 0");
        Edges.says("hex: 0 to 9, a to f");
        for (int c = 32; c < 127; c++) {
            boolean hex = c >= '0' && c <= '9' || c >= 'a' && c <= 'f';
            for (int i = 0; i < 4; i++) {
                String text = "\\x" + "0".repeat(i) + (char) c + "0".repeat(3 - i);
                reads(text, hex ? "0" : "fault 1 at " + (2 + i));
                reads("[" + text + "]", hex ? "2" : "fault 1 at " + (3 + i));
            }
        }
        Kit kit = new Kit().pattern(0, "\\x0a9f").pattern(1, "\\x00000").pattern(2, "[\\x00610]");
        Edges.due("four of them", kit.x.node(0, 0, 10) + " " + kit.x.node(1, 2, 10) + " " + kit.x.node(2, 0, 1), "2719 48 2");
        reads("\\x", "fault 1 at 2");
        reads("\\x000", "fault 1 at 5");
        reads("[\\x000]", "fault 1 at 6");
    }

    private static void readsNames() {
        Edges.says("small: a to z");
        for (int c = 32; c < 127; c++) {
            boolean small = c >= 'a' && c <= 'z';
            reads("(@" + (char) c + "x)", small ? "8 0" : "fault 1 at 2");
            reads("(@b)\\@" + (char) c, c == 'b' ? "5 8 5 4" : small ? "fault 3 at 6" : "fault 1 at 6");
        }
        reads("(@", "fault 1 at 2");
        reads("\\@", "fault 1 at 2");
    }

    private static void readsSets() {
        Edges.says("set = '[' ['^'] part {part} ']'");
        reads("[]", "fault 1 at 1");
        reads("[^]", "fault 1 at 2");
        reads("[^^]", "fault 1 at 2");
        reads("[a", "fault 1 at 2");
        reads("[^a", "fault 1 at 3");
        reads("[", "fault 1 at 1");
        reads("[^", "fault 1 at 2");
        reads("[a]]", "fault 1 at 3");
        Edges.says("part = member ['-' member]");
        reads("[a-]", "fault 1 at 3");
        reads("[-a]", "fault 1 at 1");
        reads("[a--]", "fault 1 at 3");
        reads("[a-b-c]", "fault 1 at 4");
        reads("[a-bc-d]", "2");
        reads("[a-[]", "fault 1 at 3");
        Edges.says("member = a sign that is none of [ ] ^ - \\ | '\\x' hex hex hex hex | '\\' and a sign that is no LETTER, digit");
        for (int c = 32; c < 127; c++) {
            int at = "[]^-\\".indexOf(c);
            reads("[a" + (char) c + "]", at < 0 || c == ']' ? c == ']' ? "fault 1 at 3" : "2" : c == '-' ? "fault 1 at 3" : c == '\\' ? "fault 1 at 4" : "fault 1 at 2");
            boolean refused = Character.isLetterOrDigit(c);
            reads("[\\" + (char) c + "]", c == 'x' ? "fault 1 at 3" : refused ? "fault 1 at 2" : "2");
        }
    }

    private static void readsMarks() {
        Edges.says("(the marks are read when they stand right behind '('; '()' is '(' choice ')' with an empty row.)");
        String special = ":=!<~*%@#?+{}])([\\|.^$";
        String[] due = {
            "0", "9 0", "9 0", "9 0", "9 0", "10 0", "11 0", "8 5", "5", "fault 1 at 1", "fault 1 at 1", "fault 1 at 1", "fault 1 at 1",
            "fault 1 at 1", "fault 1 at 3", "fault 1 at 4", "fault 1 at 4", "fault 1 at 2", "8 6 5 0", "8 5 1 0", "8 5 3 0", "8 5 3 0",
        };
        for (int c = 32; c < 127; c++) {
            int at = special.indexOf(c);
            reads("(" + (char) c + "a)", at < 0 ? "8 5 0 0" : due[at]);
            if (":=!<~%@#".indexOf(c) >= 0) {
                reads("(a" + (char) c + ")", "8 5 0 0");
                reads("((:)" + (char) c + ")", "8 5 5 0");
                reads((char) c + "(:)", "5 0 5");
            }
        }
        reads("()", "8 5");
        reads("(:)", "5");
        reads("(=)(!)(<)(~)(*)(%)(@a)", "5 9 5 9 5 9 5 9 5 10 5 11 5 8 5");
        reads("(", "fault 1 at 1");
        reads("(:", "fault 1 at 2");
    }

    private static void readsComments() {
        Edges.says("A COMMENT (#) is nothing at all: no one, and no loop stands right behind it.");
        reads("(#)", "5");
        reads("(#)(#a)", "5");
        reads("a(#)", "0");
        reads("(#)a*", "7 0");
        reads("a(#)b", "5 0 0");
        reads("((#))", "8 5");
        reads("(:(#)a|(#)b)", "6 0 0");
        for (String loop : new String[] {"*", "+", "?", "{2}"}) {
            reads("(#)" + loop, "fault 1 at 3");
            reads("a(#)" + loop, "fault 1 at 4");
            reads("a*(#)" + loop, "fault 1 at 5");
        }
        Edges.says("'(#' {a sign but )} ')'");
        reads("(#(#[{*\\)a", "0");
        reads("(#", "fault 1 at 2");
        reads("(#ab", "fault 1 at 4");
        reads("(#))", "fault 1 at 3");
    }

    private static String loop(String text) {
        Kit kit = new Kit().pattern(0, text);
        return kit.x.node(0, 0, 16) + " " + kit.x.node(0, 0, 17) + " " + kit.x.node(0, 0, 18);
    }

    private static void readsLoops() {
        Edges.says("number = one or two digits");
        reads("a{}", "fault 1 at 2");
        reads("a{1}", "7 0");
        reads("a{01}", "7 0");
        reads("a{001}", "fault 1 at 4");
        reads("a{,1}", "fault 1 at 2");
        reads("a{0,001}", "fault 1 at 6");
        reads("a{1,001}", "fault 3 at 4");
        reads("a{1,,}", "fault 1 at 4");
        reads("a{1 }", "fault 1 at 3");
        Edges.says("Of '{' number alone least and most are that, with ',' and no number behind there is no most; * is {0,}, + {1,}, ? {0,1}.");
        Edges.due("{2}", loop("a{2}"), "2 2 0");
        Edges.due("{0}", loop("a{0}"), "0 0 0");
        Edges.due("{00,00}", loop("a{00,00}"), "0 0 0");
        Edges.due("{20,20}", loop("a{20,20}"), "20 20 0");
        Edges.due("{2,}", loop("a{2,}"), "2 -1 0");
        Edges.due("{0,}", loop("a{0,}"), "0 -1 0");
        Edges.due("*", loop("a*"), "0 -1 0");
        Edges.due("+", loop("a+"), "1 -1 0");
        Edges.due("?", loop("a?"), "0 1 0");
        Edges.says("['?' | '+']");
        String[] loops = {"*", "+", "?", "{2}", "{2,}", "{2,3}"};
        String[] due = {"0 -1", "1 -1", "0 1", "2 2", "2 -1", "2 3"};
        for (int i = 0; i < loops.length; i++) {
            Edges.due("greedy " + loops[i], loop("a" + loops[i]), due[i] + " 0");
            Edges.due("spare " + loops[i], loop("a" + loops[i] + "?"), due[i] + " 1");
            Edges.due("cutting " + loops[i], loop("a" + loops[i] + "+"), due[i] + " 2");
            reads("a" + loops[i] + "*", "fault 1 at " + (1 + loops[i].length()));
            reads("a" + loops[i] + "?+", "fault 1 at " + (2 + loops[i].length()));
            reads("a" + loops[i] + "+?", "fault 1 at " + (2 + loops[i].length()));
            reads("a" + loops[i] + "{2}", "fault 1 at " + (1 + loops[i].length()));
            reads("a|" + loops[i], "fault 1 at 2");
            reads("(:" + loops[i] + ")", "fault 1 at 2");
            reads("^" + loops[i], "7 3");
            reads("()\\1" + loops[i], "5 8 5 7 4");
            reads("(=)" + loops[i], "7 9 5");
        }
    }

    private static void tellsTheFirstFault() {
        Edges.says("FAULTS of a text: the first sign that has one, of these the least (the end is a place, too)");
        reads("(a", "fault 1 at 2");
        reads("a{2", "fault 1 at 3");
        reads("a{21", "fault 3 at 2");
        reads("a{2,1", "fault 3 at 4");
        reads("[b-a", "fault 3 at 3");
        reads("a{21}*)", "fault 3 at 2");
        reads(")a{21}", "fault 1 at 0");
        reads("\\1)", "fault 3 at 1");
        reads(")\\1", "fault 1 at 0");
        reads("a".repeat(100) + "**", "fault 2 at 100");
        reads("a".repeat(99) + "**", "fault 1 at 100");
        reads("a".repeat(100) + "|*", "fault 1 at 101");
        reads("a".repeat(100) + "\\9", "fault 2 at 100");
        reads("a".repeat(99) + "\\9", "fault 3 at 100");
        reads("(".repeat(10), "fault 2 at 9");
        reads("(".repeat(9), "fault 1 at 9");
        reads("|".repeat(199) + "(", "fault 1 at 200");
        reads("|".repeat(199) + "a", "6" + " 5".repeat(199) + " 0");
    }

    private static void tellsTooMany() {
        Edges.says("2 there would be more than 9 captures (at '('), 100 ITEMS (each one but a COMMENT and each loop is an ITEM, at its first sign; a group at '('), or groups within more than 8 groups (at '(').");
        reads("()".repeat(9), "5" + " 8 5".repeat(9));
        reads("a" + "()".repeat(10), "fault 2 at 19");
        reads("a" + "()".repeat(9) + "(@a)", "fault 2 at 19");
        reads("()".repeat(9) + "(:)(=)(*)(%)(#)", "5" + " 8 5".repeat(9) + " 5 9 5 10 5 11 5");
        String many = "a".repeat(99);
        String sorts = "5" + " 0".repeat(99);
        reads(many + "b", sorts + " 0");
        String[] ones = {"b", ".", "^", "$", "\\b", "\\x0000", "[a]", "(a", "(:", "(=", "\\d"};
        for (String one : ones) {
            reads(many + "b" + one, "fault 2 at 100");
            reads("a".repeat(98) + "b*" + one, "fault 2 at 100");
        }
        reads(many + "b(#x)", sorts + " 0");
        for (String loop : new String[] {"*", "+", "?", "{2}", "{2,3}?"}) {
            reads(many + loop, "5" + " 0".repeat(98) + " 7 0");
            reads(many + "b" + loop, "fault 2 at 100");
        }
        reads("a".repeat(98) + "(:b)", sorts);
        reads("a".repeat(99) + "(:b)", "fault 2 at 101");
        for (String group : new String[] {"(", "(:", "(=", "(!", "(<", "(~", "(*", "(%"}) {
            boolean captures = group.equals("(");
            Edges.due("a group within 8 of " + group, read(group.repeat(9) + ")".repeat(9)).startsWith("fault"), false);
            reads((captures ? "(:" : group).repeat(9) + "(*)" + ")".repeat(9), "fault 2 at 18");
            reads("(:".repeat(8) + group + "(:)" + ")".repeat(9), "fault 2 at " + (16 + group.length()));
        }
        reads("(:".repeat(9) + "(#x)" + ")".repeat(9), "5");
        reads("(:".repeat(8) + "(:)(:)" + ")".repeat(8) + "(:)", "5 5 5 5 5");
    }

    private static void tellsWrongValues() {
        Edges.says("3 a number above 20, or a most below the least (at its first digit)");
        for (int number = 0; number < 100; number++) {
            reads("a{" + number + "}", number > 20 ? "fault 3 at 2" : "7 0");
            reads("a{" + number + ",}", number > 20 ? "fault 3 at 2" : "7 0");
            reads("a{1," + number + "}", number > 20 || number < 1 ? "fault 3 at 4" : "7 0");
            reads("a{20," + number + "}", number != 20 ? "fault 3 at 5" : "7 0");
        }
        Edges.says("a range whose end is below its begin (at the first sign of the end)");
        reads("[b-b]", "2");
        reads("[b-c]", "2");
        reads("[b-a]", "fault 3 at 3");
        reads("[^xb-\\x0061]", "fault 3 at 5");
        reads("[\\x0062-\\x0061]", "fault 3 at 8");
        reads("[\\xffff-\\xfffe]", "fault 3 at 8");
        reads("[\\x0000-\\xffff]", "2");
        reads("[\\--,]", "fault 3 at 4");
        reads("[b-\\]]", "fault 3 at 3");
        Edges.says("a back reference to a capture that was not begun ahead of it (at the digit), to a name that was not (at the name); a name told twice (at it).");
        reads("\\1()", "fault 3 at 1");
        reads("()\\2()", "fault 3 at 3");
        reads("(\\1)", "8 4");
        reads("(\\2())", "fault 3 at 2");
        reads("()".repeat(8) + "(\\9)", "5" + " 8 5".repeat(8) + " 8 4");
        reads("(:)\\1", "fault 3 at 4");
        reads("\\@a(@a)", "fault 3 at 2");
        reads("(@a\\@a)", "8 4");
        reads("(@a\\@b)", "fault 3 at 5");
        reads("(@a)(@b)(@a)", "fault 3 at 10");
        reads("(@a(@a))", "fault 3 at 5");
        reads("(@a)(@z)", "5 8 5 8 5");
    }

    private static void numbersCaptures() {
        Edges.says("CAPTURES have numbers from 1 on, as their '(' stand: those of '(' without a mark, and of '(@', which have a name too; 0 is the whole.");
        Kit kit = new Kit().pattern(0, "(=(a(@qb)))(:(c))");
        int[] captures = {2, 5, 7};
        for (int i = 0; i < 3; i++) {
            Edges.due("capture " + (i + 1), kit.x.node(0, captures[i], 14), i + 1);
        }
        Edges.due("the name", kit.x.named(0, 'q'), 2);
        kit.pattern(0, "()".repeat(9)).subject(0, "");
        Edges.due("nine", kit.x.find(0, 0, 0, 0, 1) + " " + kit.x.told(5) + " " + kit.x.node(0, 17, 14), "1 9 9");
        Edges.due("0 is the whole", kit.x.span(0, false) + " " + kit.x.span(9, true) + " " + kit.x.span(10, true), "0 0 " + OUTSIDE);
    }

    private static void makesTrees() {
        Edges.says("NODES are numbered from 0 on: a node, then all of its first part, of its second, and so on.");
        reads("a(:b|(c.)*)^", "5 0 6 0 7 8 5 0 1 3");
        Kit kit = new Kit().pattern(0, "a(:b|(c.)*)^");
        int[] holders = {NONE, 0, 0, 2, 2, 4, 5, 6, 6, 0};
        for (int k = 0; k < holders.length; k++) {
            Edges.due("what holds node " + k, kit.x.node(0, k, 2), holders[k]);
        }
        Edges.says("5 ROW of other than one node, 6 CHOICE of two rows or more");
        reads("", "5");
        reads("a", "0");
        reads("ab", "5 0 0");
        reads("a|", "6 0 5");
        reads("|", "6 5 5");
        Edges.says("A row of one node, a choice of one row, and (: are what they hold.");
        reads("(:a)", "0");
        reads("(:(:a|b))", "6 0 0");
        reads("(:ab)c", "5 5 0 0 0");
        reads("(:a)b", "5 0 0");
        reads("(:)b", "5 5 0");
        reads("(:a*)*", "7 7 0");
    }

    private static void parts(String set, String due) {
        Kit kit = new Kit().pattern(0, set);
        StringBuilder s = new StringBuilder();
        for (int i = 0; i < kit.x.node(0, 0, 1); i++) {
            s.append(i == 0 ? "" : " ").append(kit.x.part(0, 0, i, false)).append("-").append(kit.x.part(0, 0, i, true));
        }
        Edges.due(set, s, due);
    }

    private static void joinsParts() {
        Edges.says("A SET has PARTS: ranges by their begins, none touching or overlapping another one (they are joined so), and whether it is turned (^).");
        parts("[a-ce-g]", "97-99 101-103");
        parts("[a-cd-g]", "97-103");
        parts("[a-cc-g]", "97-103");
        parts("[d-ga-c]", "97-103");
        parts("[e-ga-c]", "97-99 101-103");
        parts("[a-zb-cx]", "97-122");
        parts("[acegd]", "97-97 99-101 103-103");
        parts("[acebd]", "97-101");
        parts("[\\x0000\\xffff]", "0-0 65535-65535");
        parts("[\\x0000-\\xfffe\\xffff]", "0-65535");
        parts("[^a-cb-d]", "97-100");
        Edges.says("2 SET (also \\d: 0 to 9, \\w: WORD signs)");
        parts("\\d", "48-57");
        parts("\\w", "48-57 65-90 95-95 97-122");
    }

    private static void prints(String text, String due) {
        Kit kit = new Kit().pattern(0, text);
        Edges.due("print of " + text, kit.x.print(0) + " " + kit.out(), due.length() + " " + due);
        int nodes = kit.read(1, due);
        Edges.due("it is read to as many nodes", nodes, kit.read(2, text));
        kit.x.print(1);
        Edges.due("and printed alike", kit.out(), due);
    }

    private static void printsSigns() {
        Edges.says("PRINTED: a SIGN as itself if it is plain; as \\ and itself if it is another one of 32 to 126; else as \\x and four hex.");
        for (int c = 32; c < 127; c++) {
            String due = NOT_PLAIN.indexOf(c) < 0 ? String.valueOf((char) c) : "\\" + (char) c;
            prints(String.format("\\x%04x", c), due);
        }
        for (int c : new int[] {0, 9, 10, 31, 127, 128, 255, 256, 4095, 4096, 43981, 65535}) {
            prints(String.format("\\x%04x", c), String.format("\\x%04x", c));
        }
        Edges.says("ANY . ; EDGES ^ $ \\b \\B ;");
        prints(".^$\\b\\B", ".^$\\b\\B");
    }

    private static void printsSetsAndBacks() {
        Edges.says("a SET [ , ^ if it is turned, each PART: its begin, and if its end is another sign, - and that; ] ; (a sign of 32 to 126 but [ ] ^ - \\ as itself, these as \\ and itself, others as \\x and four hex.)");
        for (int c = 32; c < 127; c++) {
            String sign = ("[]^-\\".indexOf(c) < 0 ? "" : "\\") + (char) c;
            prints(String.format("[\\x%04x]", c), "[" + sign + "]");
            prints(String.format("[^\\x0000-\\x%04x]", c), "[^\\x0000-" + sign + "]");
        }
        prints("[\\x001f\\x007f\\xffff]", "[\\x001f\\x007f\\xffff]");
        prints("[x]\\d\\w\\d[y]", "[x][0-9][0-9A-Z_a-z][0-9][y]");
        prints("[aab]", "[a-b]");
        prints("[a-a]", "[a]");
        Edges.says("BACK \\ and the digit (also if it was told by a name).");
        prints("(@qa)\\@q", "(@qa)\\1");
        prints("()".repeat(8) + "(@z)\\@z", "()".repeat(8) + "(@z)\\9");
    }

    private static void printsLoops() {
        Edges.says("LOOP: its node, then * + ? if it is {0,} {1,} {0,1}, else { least } , { least ,} or { least , most } , then nothing, ? or + .");
        String[] texts = {"{0,}", "{1,}", "{0,1}", "{0}", "{0,0}", "{1}", "{1,1}", "{2,}", "{0,2}", "{1,2}", "{20}", "{20,20}", "{09,10}", "{19,20}", "{00,01}", "{01,}"};
        String[] due = {"*", "+", "?", "{0}", "{0}", "{1}", "{1}", "{2,}", "{0,2}", "{1,2}", "{20}", "{20}", "{9,10}", "{19,20}", "?", "+"};
        for (int i = 0; i < texts.length; i++) {
            prints("a" + texts[i], "a" + due[i]);
            prints("a" + texts[i] + "?", "a" + due[i] + "?");
            prints("a" + texts[i] + "+", "a" + due[i] + "+");
        }
    }

    private static void printsGroups() {
        Edges.says("CAPTURE ( or (@ and its name, what it holds, ) (a SIGN : = ! < ~ % @ # that would stand right behind a ( without a name as \\x and four hex)");
        for (char c : ":=!<~%@#".toCharArray()) {
            String code = String.format("\\x%04x", (int) c);
            prints("(" + code + ")", "(" + code + ")");
            prints("(" + code + "a)", "(" + code + "a)");
            prints("(" + code + "*)", "(" + code + "*)");
            prints("(" + code + "|" + code + ")", "(" + code + "|" + c + ")");
            prints("(" + code + code + ")", "(" + code + c + ")");
            prints("((" + code + "))", "((" + code + "))");
            prints("((:" + code + "a)*)", "((:" + c + "a)*)");
            prints("(a" + code + ")", "(a" + c + ")");
            prints("(|" + code + ")", "(|" + c + ")");
            prints("(@q" + code + ")", "(@q" + c + ")");
            prints(code, String.valueOf(c));
            prints("()" + code, "()" + c);
            prints("(^" + code + ")", "(^" + c + ")");
            prints("(" + "[" + code + "])", "([" + c + "])");
            for (String mark : new String[] {"=", "!", "<", "~", "*", "%"}) {
                prints("(" + mark + code + ")", "(" + mark + c + ")");
            }
        }
        prints("(\\x002a)", "(\\*)");
        prints("(\\x003b\\x0024)", "(;\\$)");
        Edges.says("LOOKS (= (! (< (~ , CUT (* , CASE (% likewise.");
        prints("(=)(!)(<)(~)(*)(%)", "(=)(!)(<)(~)(*)(%)");
        Edges.says("A ROW or CHOICE within a ROW or LOOP, a CHOICE within a CHOICE, and a LOOP within a LOOP stand within (: and ) .");
        prints("a(:bc)", "a(:bc)");
        prints("a(:b|c)", "a(:b|c)");
        prints("(:bc)*", "(:bc)*");
        prints("(:b|c)*", "(:b|c)*");
        prints("(:)*", "(:)*");
        prints("a(:)", "a(:)");
        prints("a|(:b|c)", "a|(:b|c)");
        prints("a|(:bc)", "a|bc");
        prints("a|(:)", "a|");
        prints("(:a*)*", "(:a*)*");
        prints("(:a*)b", "a*b");
        prints("(:a*)|b", "a*|b");
        prints("(:a)*", "a*");
        prints("((:ab))", "(ab)");
        prints("(=(:a|b))", "(=a|b)");
        prints("(%(:a*))", "(%a*)");
        prints("(:(a))*", "(a)*");
        prints("(:(=a))*", "(=a)*");
    }
}
