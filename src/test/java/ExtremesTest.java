import java.util.Random;

/** Calls with any arguments in any state: none throws by itself, and each ends. */
public final class ExtremesTest {
    private static final int[] NUMBERS = {0, 1, 2, 3, 4, 5, 6, 7, 8, 9, 10, 17, 18, 63, 64, 97, 100, 101, 200, 3000, 3001, 65535, 65536, -1, -2, -20, 1 << 30, Integer.MAX_VALUE, Integer.MIN_VALUE};
    private static final String[] TEXTS = {"a", "ab*", "(a|b)*", "(", ")", "[^a]", "\\w", "{2}", "(:", "(=", "(<", "(*", "(~", "\\1", "?", "+", "|", "$", "^", "\\b", "x"};

    private final Random random;
    private final Kit kit = new Kit();

    private ExtremesTest(long seed) {
        random = new Random(seed);
    }

    public static void main(String[] args) {
        for (long seed = 0; seed < 2000; seed++) {
            ExtremesTest run = new ExtremesTest(seed);
            for (int i = 0; i < 512; i++) {
                run.call(random(run.random));
            }
        }
        Kit.end("ExtremesTest");
    }

    private static int random(Random random) {
        return random.nextInt(34);
    }

    private int n() {
        return random.nextInt(3) > 0 ? random.nextInt(4) : NUMBERS[random.nextInt(NUMBERS.length)];
    }

    private boolean b() {
        return random.nextBoolean();
    }

    private void call(int which) {
        String thrown = "";
        try {
            ask(which);
        } catch (ArrayIndexOutOfBoundsException | NullPointerException e) {
            // What the machine throws has a text of its own, and is thrown where no throw stands.
            boolean own = e.getMessage() == null && (which == 13 || which == 28);
            thrown = own ? "" : e.toString();
        } catch (RuntimeException e) {
            thrown = e.toString();
        }
        Kit.due("call " + which, thrown, "");
    }

    private void ask(int which) {
        PatternWorkshop x = kit.x;
        switch (which) {
            case 0: x.feed(n(), random.nextLong()); break;
            case 1: x.pattern(n()); break;
            case 2: x.place(); break;
            case 3: x.forget(n()); break;
            case 4: x.node(n(), n(), n()); break;
            case 5: x.part(n(), n(), n(), b()); break;
            case 6: x.print(n()); break;
            case 7: x.begins(n(), n()); break;
            case 8: x.risky(n()); break;
            case 9: x.dead(n(), n()); break;
            case 10: x.put(n(), n(), random.nextLong()); break;
            case 11: x.put(n(), 4, 0x61006200610062L); break;
            case 12: x.drop(n()); break;
            case 13: x.sign(n(), n()); break;
            case 14: x.find(n(), n(), n(), n(), n()); break;
            case 15: x.goOn(n()); break;
            case 16: x.span(n(), b()); break;
            case 17: x.named(n(), n()); break;
            case 18: x.whole(n(), n(), n()); break;
            case 19: x.all(n(), n(), n()); break;
            case 20: x.replace(n(), n(), n()); break;
            case 21: x.first(n(), n(), n(), n()); break;
            case 22: x.prefix(n(), n(), n()); break;
            case 23: x.steps(); break;
            case 24: x.table(n()); break;
            case 25: x.least(n()); break;
            case 26: x.compare(n(), n()); break;
            case 27: x.parting(n(), n()); break;
            case 28: x.out(n()); break;
            case 29: x.finding(); break;
            case 30: x.told(n()); break;
            case 31:
                if (random.nextInt(40) == 0) {
                    x.clear();
                }
                break;
            default:
                kit.feed(TEXTS[random.nextInt(TEXTS.length)]);
                break;
        }
    }
}
