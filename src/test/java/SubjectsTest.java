/** Promises 12 to 14: put, drop, sign. */
public final class SubjectsTest {
    public static void main(String[] args) {
        putsSigns();
        refusesToPut();
        drops();
        tellsSigns();
        Kit.end("SubjectsTest");
    }

    private static void putsSigns() {
        Kit kit = new Kit();
        Kit.due("put of none", kit.x.put(0, 0, -1L), 0);
        Kit.due("it is there then", kit.x.told(2), 1);
        Kit.due("put of two", kit.x.put(0, 2, 0x1111222233334444L), 2);
        Kit.due("the highest first", (int) kit.x.sign(0, 0), 0x3333);
        Kit.due("then the lowest", (int) kit.x.sign(0, 1), 0x4444);
        Kit.due("put of four", kit.x.put(0, 4, 0xffff000180007fffL), 6);
        Kit.due("sign 65535", (int) kit.x.sign(0, 2), 65535);
        Kit.due("sign 1", (int) kit.x.sign(0, 3), 1);
        Kit.due("sign 32768", (int) kit.x.sign(0, 4), 32768);
        Kit.due("another subject", kit.x.put(3, 1, 97), 1);
        Kit.due("both are there", kit.x.told(2), 2);
    }

    private static void refusesToPut() {
        Kit kit = new Kit();
        Kit.due("subject -1", kit.x.put(-1, 5, 0), PatternWorkshop.UNKNOWN);
        Kit.due("subject 4", kit.x.put(4, 1, 0), PatternWorkshop.UNKNOWN);
        Kit.due("n = -1", kit.x.put(0, -1, 0), PatternWorkshop.OUTSIDE);
        Kit.due("n = 5", kit.x.put(0, 5, 0), PatternWorkshop.OUTSIDE);
        Kit.due("none is there", kit.x.told(2), 0);
        for (int i = 1; i <= 25; i++) {
            Kit.due("put " + i, kit.x.put(0, 4, 0), 4 * i);
        }
        Kit.due("the 101st", kit.x.put(0, 1, 0), PatternWorkshop.ROOM);
        Kit.due("none more", kit.x.put(0, 0, 0), 100);
        Kit.due("no finding", kit.x.finding(), 0);
    }

    private static void drops() {
        Kit kit = new Kit();
        Kit.due("drop of none", kit.x.drop(2), PatternWorkshop.NO_SUBJECT);
        Kit.due("its finding", kit.x.finding(), 2);
        Kit.due("drop of -1", kit.x.drop(-1), PatternWorkshop.UNKNOWN);
        Kit.due("drop of 4", kit.x.drop(4), PatternWorkshop.UNKNOWN);
        kit.subject(2, "abc");
        Kit.due("drop", kit.x.drop(2), 3);
        Kit.due("drop again", kit.x.drop(2), PatternWorkshop.NO_SUBJECT);
        Kit.due("put anew", kit.x.put(2, 1, 97), 1);
    }

    private static void tellsSigns() {
        Kit kit = new Kit().subject(1, "ab");
        Kit.due("sign 1", kit.x.sign(1, 1), 'b');
        Kit.due("sign 2", thrown(kit, 1, 2), "ArrayIndexOutOfBoundsException");
        Kit.due("sign -1", thrown(kit, 1, -1), "ArrayIndexOutOfBoundsException");
        Kit.due("no subject", thrown(kit, 0, 7), "NullPointerException");
        Kit.due("subject 4", thrown(kit, 4, 0), "ArrayIndexOutOfBoundsException");
        Kit.due("subject -1", thrown(kit, -1, 0), "ArrayIndexOutOfBoundsException");
        int before = kit.x.finding();
        thrown(kit, 0, 0);
        Kit.due("what is thrown leaves the finding", kit.x.finding(), before);
    }

    private static String thrown(Kit kit, int subject, int i) {
        try {
            kit.x.sign(subject, i);
            return "nothing";
        } catch (ArrayIndexOutOfBoundsException | NullPointerException e) {
            return e.getClass().getSimpleName();
        }
    }
}
