/** What the tests have in common: a workshop that takes texts, and a count of wrong answers. */
final class Kit {
    final PatternWorkshop x = new PatternWorkshop();
    private static int asked = 0;
    private static int wrong = 0;

    /** Feeds a text to the tape, eight signs a call. */
    Kit feed(String text) {
        for (int i = 0; i < text.length(); i += 8) {
            String some = text.substring(i, Math.min(i + 8, text.length()));
            long w = 0;
            for (int j = 0; j < some.length(); j++) {
                w = w << 8 | some.charAt(j);
            }
            x.feed(some.length(), w);
        }
        return this;
    }

    /** The answer of pattern() for a text. */
    int read(int slot, String text) {
        feed(text);
        return x.pattern(slot);
    }

    Kit pattern(int slot, String text) {
        int answer = read(slot, text);
        if (answer < 0) {
            wrong++;
            System.out.println("the pattern " + text + " was refused: " + answer + " at " + x.place());
        }
        return this;
    }

    /** Makes a subject anew. */
    Kit subject(int number, String text) {
        x.drop(number);
        x.put(number, 0, 0);
        for (int i = 0; i < text.length(); i += 4) {
            String some = text.substring(i, Math.min(i + 4, text.length()));
            long w = 0;
            for (int j = 0; j < some.length(); j++) {
                w = w << 16 | some.charAt(j);
            }
            x.put(number, some.length(), w);
        }
        return this;
    }

    /** OUT as a text, for a row of signs. */
    String out() {
        StringBuilder text = new StringBuilder();
        for (int i = 0; i < x.told(3); i++) {
            text.append((char) x.out(i));
        }
        return text.toString();
    }

    /** OUT as numbers, for a row of numbers. */
    String numbers() {
        StringBuilder text = new StringBuilder();
        for (int i = 0; i < x.told(3); i++) {
            text.append(i == 0 ? "" : " ").append(x.out(i));
        }
        return text.toString();
    }

    /** The spans that are told: begin-end of each capture, a point for none. */
    String spans() {
        StringBuilder text = new StringBuilder();
        for (int k = 0; k <= x.told(5); k++) {
            text.append(k == 0 ? "" : " ");
            text.append(x.span(k, false) == PatternWorkshop.NONE ? "." : x.span(k, false) + "-" + x.span(k, true));
        }
        return text.toString();
    }

    static void due(String what, Object got, Object want) {
        asked++;
        if (!String.valueOf(got).equals(String.valueOf(want))) {
            wrong++;
            System.out.println(what + " answered " + got + ", due is " + want);
        }
    }

    static void end(String name) {
        System.out.println(name + ": " + asked + " answers, " + wrong + " wrong");
        if (wrong != 0) {
            System.exit(1);
        }
    }
}
