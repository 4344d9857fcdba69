import java.lang.management.ManagementFactory;

/** What runs make: all calls of one run live in one room, so calls make next to nothing. */
public final class RoomTest {
    private static final int CALLS = 512;

    public static void main(String[] args) {
        new Kit().pattern(0, "warm").subject(0, "up").x.find(0, 0, 0, 0, 9);
        long before = bytes();
        Kit kit = new Kit();
        Kit.due("a new object is below a megabyte", bytes() - before < 1_000_000, true);
        kit.pattern(0, "(:(:(:a|b)*c?)*(\\w)){2,}").pattern(1, "[a-z]*?x").subject(0, "ab".repeat(50));
        makesLittle(kit, "calls on what is there", 100_000);
        kit.pattern(0, "\\w(a)(=b)").pattern(1, "(<a*)x");
        makesLittle(kit, "looks", 100_000);
        String spare = "a??".repeat(45);
        kit.pattern(0, "(:(:(:" + spare + "){20}){20}){8}").pattern(1, "(:(:(:" + spare + "){20}){20}){8}b");
        makesLittle(kit, "the most choices that are kept", 16_000_000);
        Kit.end("RoomTest");
    }

    private static void makesLittle(Kit kit, String what, long most) {
        long before = bytes();
        int sum = 0;
        for (int i = 0; i < CALLS; i++) {
            sum += call(kit.x, i);
        }
        long made = bytes() - before;
        Kit.due(what + " made no more than " + most + " bytes (" + made + ", " + sum + ")", made <= most, true);
    }

    private static int call(PatternWorkshop x, int i) {
        switch (i % 12) {
            case 0:
                return x.find(0, 0, 0, 0, 3000);
            case 1:
                return x.find(1, 0, 0, 1, 3000);
            case 2:
                return x.find(0, 0, 0, 2, 3000);
            case 3:
                return x.all(1, 0, 0);
            case 4:
                return x.whole(0, 0, 0);
            case 5:
                return x.table(0);
            case 6:
                return x.least(1);
            case 7:
                return x.parting(0, 1);
            case 8:
                return x.print(0);
            case 9:
                return x.risky(0);
            case 10:
                return x.replace(1, 0, 1);
            default:
                return x.feed(1, 97) + x.pattern(3);
        }
    }

    private static long bytes() {
        return ((com.sun.management.ThreadMXBean) ManagementFactory.getThreadMXBean()).getThreadAllocatedBytes(Thread.currentThread().getId());
    }
}
