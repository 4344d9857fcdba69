/** Promises 29 to 32: out, finding, told, clear. */
public final class ToldTest {
    public static void main(String[] args) {
        tellsOut();
        tellsFindings();
        tells();
        clears();
        Kit.end("ToldTest");
    }

    private static String thrown(Kit kit, int i) {
        try {
            return String.valueOf(kit.x.out(i));
        } catch (ArrayIndexOutOfBoundsException e) {
            return "thrown";
        }
    }

    private static void tellsOut() {
        Kit kit = new Kit().pattern(0, "ab").subject(0, "xab");
        Kit.due("at first", thrown(kit, 0), "thrown");
        kit.x.print(0);
        Kit.due("signs", thrown(kit, -1) + " " + thrown(kit, 0) + " " + thrown(kit, 1) + " " + thrown(kit, 2), "thrown 97 98 thrown");
        kit.x.all(0, 0, 0);
        Kit.due("numbers", thrown(kit, 0) + " " + thrown(kit, 1) + " " + thrown(kit, 2), "1 3 thrown");
        Kit.due("far off", thrown(kit, Integer.MAX_VALUE) + " " + thrown(kit, Integer.MIN_VALUE), "thrown thrown");
        kit.subject(0, "b");
        kit.x.all(0, 0, 0);
        Kit.due("no numbers", thrown(kit, 0) + " " + kit.x.told(3) + " " + kit.x.told(4), "thrown 0 1");
    }

    private static void tellsFindings() {
        Kit kit = new Kit().pattern(0, "[a]b").subject(0, "ab");
        Kit.due("before one", new PatternWorkshop().finding(), 0);
        kit.x.drop(1);
        Kit.due("no subject", kit.x.finding(), 2);
        kit.x.part(0, 1, 1, false);
        Kit.due("a part", kit.x.finding(), 1);
        kit.x.print(1);
        Kit.due("no pattern", kit.x.finding(), 2);
        kit.x.node(0, 0, 10);
        Kit.due("another sort", kit.x.finding(), 3);
        kit.x.find(0, 0, 0, 0, 99);
        kit.x.span(1, false);
        Kit.due("a capture", kit.x.finding(), 1);
        kit.x.part(0, 0, 0, false);
        Kit.due("no set", kit.x.finding(), 3);
        kit.pattern(1, "\\w".repeat(40));
        kit.x.print(1);
        Kit.due("too long a print", kit.x.finding(), 4);
        leavesFinding(kit);
    }

    private static void leavesFinding(Kit kit) {
        kit.x.feed(9, 0);
        kit.read(0, ")");
        kit.x.pattern(7);
        kit.x.node(0, 99, 0);
        kit.x.node(7, 0, 0);
        kit.x.begins(0, -1);
        kit.x.dead(0, -1);
        kit.x.put(9, 0, 0);
        kit.x.put(0, 9, 0);
        kit.x.drop(9);
        kit.x.find(0, 9, 0, 0, 1);
        kit.x.find(0, 0, 9, 0, 1);
        kit.x.goOn(1);
        kit.x.named(0, 1);
        kit.x.first(0, 0, 0, 0);
        kit.pattern(0, "(=a)");
        kit.x.find(0, 0, 0, 1, 1);
        kit.x.table(0);
        kit.x.told(9);
        thrown(kit, 999);
        Kit.due("other refusals leave it", kit.x.finding(), 4);
    }

    private static void tells() {
        Kit kit = new Kit().pattern(0, "(a)(b)c").pattern(4, "a").subject(0, "ab").subject(3, "abc").feed("xyz");
        kit.x.print(0);
        kit.x.find(0, 3, 0, 0, 99);
        kit.x.find(0, 0, 0, 0, 1);
        int[] due = {3, 2, 2, 7, 0, 2, 1, PatternWorkshop.OUTSIDE};
        for (int what = 0; what < due.length; what++) {
            Kit.due("told(" + what + ")", kit.x.told(what), due[what]);
        }
        Kit.due("told(-1)", kit.x.told(-1), PatternWorkshop.OUTSIDE);
        kit.x.goOn(99);
        Kit.due("nothing is found, and none can go on", kit.x.told(5) + " " + kit.x.told(6), "0 0");
    }

    private static void clears() {
        Kit kit = new Kit().pattern(0, "(a)").pattern(4, "a").subject(0, "a").subject(3, "abc");
        kit.read(1, ")");
        kit.feed("xyz");
        kit.x.all(0, 0, 0);
        kit.x.find(0, 0, 0, 0, 99);
        kit.x.find(4, 3, 1, 0, 1);
        kit.x.drop(2);
        Kit.due("how many patterns there were", kit.x.clear(), 2);
        for (int what = 0; what < 7; what++) {
            Kit.due("told(" + what + ")", kit.x.told(what), 0);
        }
        Kit.due("all is as at first", kit.x.finding() + " " + kit.x.steps() + " " + kit.x.place(), "0 0 -1");
        Kit.due("no search, no span", kit.x.goOn(1) + " " + kit.x.span(0, true), "-5 -2");
        Kit.due("no pattern, no subject", kit.x.print(0) + " " + kit.x.drop(0), "-2 -3");
        Kit.due("a subject anew", kit.x.put(3, 0, 0), 0);
        Kit.due("again", kit.x.clear(), 0);
    }
}
