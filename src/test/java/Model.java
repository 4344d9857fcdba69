import java.util.ArrayList;
import java.util.Arrays;
import java.util.BitSet;
import java.util.HashMap;
import java.util.HashSet;
import java.util.LinkedHashMap;
import java.util.List;
import java.util.Map;
import java.util.Set;
import java.util.TreeSet;

/**
 * The document once more, as plainly as Java's library lets it be said and with no thought for room
 * or time. AgreementTest asks it and the program the same calls.
 */
final class Model {
    static final int NONE = -1, UNKNOWN = -2, NO_SUBJECT = -3, OUTSIDE = -4, STATE = -5, KIND = -6, LARGE = -7, SPENT = -8, ROOM = -9, MORE = 2;

    /** A search by machines 1, 2 for which going back takes too long here: the model has no answer. */
    static final class TooLong extends RuntimeException {
        private static final long serialVersionUID = 1;
    }

    // ---- trees

    static final class Node {
        int sort;
        int value;
        int least;
        int most;
        int manner;
        boolean turned;
        char name;
        boolean inCase;
        Node holder;
        int number;
        final List<int[]> ranges = new ArrayList<>();
        final List<Node> parts = new ArrayList<>();

        Node(int sort, int value) {
            this.sort = sort;
            this.value = value;
        }

        Node part() {
            return parts.get(0);
        }

        int times() {
            return Math.max(1, most == NONE ? least + 1 : most);
        }

        long size() {
            long sum = 0;
            for (Node p : parts) {
                sum += p.size();
            }
            return Math.min(1L << 40, 1 + (sort == 7 ? times() : 1) * sum);
        }

        long positions() {
            if (sort <= 2) {
                return 1;
            }
            long sum = 0;
            for (Node p : parts) {
                sum += p.positions();
            }
            return Math.min(1L << 40, (sort == 7 ? times() : 1) * sum);
        }

        boolean mayBeEmpty() {
            switch (sort) {
                case 0: case 1: case 2:
                    return false;
                case 3: case 4: case 9:
                    return true;
                case 5:
                    return parts.stream().allMatch(Node::mayBeEmpty);
                case 6:
                    return parts.stream().anyMatch(Node::mayBeEmpty);
                case 7:
                    return least == 0 || part().mayBeEmpty();
                default:
                    return part().mayBeEmpty();
            }
        }

        boolean takes(int c) {
            if (sort == 1) {
                return c != 10;
            }
            boolean letter = c < 128 && Character.isLetter(c);
            int other = !letter ? c : Character.isUpperCase(c) ? Character.toLowerCase(c) : Character.toUpperCase(c);
            if (sort == 0) {
                return c == value || inCase && other == value;
            }
            boolean in = false;
            for (int[] r : ranges) {
                in |= r[0] <= c && c <= r[1] || inCase && r[0] <= other && other <= r[1];
            }
            return in != turned;
        }

        boolean begins(int c) {
            switch (sort) {
                case 0: case 1: case 2:
                    return takes(c);
                case 3: case 9:
                    return false;
                case 4:
                    return true;
                case 5:
                    for (Node p : parts) {
                        if (p.begins(c)) {
                            return true;
                        }
                        if (!p.mayBeEmpty()) {
                            return false;
                        }
                    }
                    return false;
                case 7:
                    return most != 0 && part().begins(c);
                default:
                    return parts.stream().anyMatch(p -> p.begins(c));
            }
        }
    }

    static final class Fault extends RuntimeException {
        private static final long serialVersionUID = 1;
        final int kind;
        final int place;

        Fault(int kind, int place) {
            super(null, null, false, false);
            this.kind = kind;
            this.place = place;
        }
    }

    static final class Pattern {
        Node root;
        int captures;
        final Map<Character, Integer> names = new HashMap<>();
        final List<Node> nodes = new ArrayList<>();

        void number(Node n, Node holder, boolean inCase) {
            n.holder = holder;
            n.inCase = inCase;
            n.number = nodes.size();
            nodes.add(n);
            for (Node p : n.parts) {
                number(p, n, inCase || n.sort == 11);
            }
        }

        boolean kindFits(int machine) {
            for (Node n : nodes) {
                if (machine == 0) {
                    continue;
                }
                if (n.sort == 4 || n.sort == 9 || n.sort == 10 || n.sort == 7 && n.manner == 2) {
                    return false;
                }
                if (n.sort == 7 && n.most != NONE && n.most > n.least && n.part().mayBeEmpty()) {
                    return false;
                }
                if (machine == 2 && n.sort == 3) {
                    return false;
                }
            }
            return true;
        }

        boolean large(int machine) {
            return machine > 0 && root.size() > 200 || machine == 2 && root.positions() > 60;
        }
    }

    /** Reads by going down; of two faults the one that stands first is thrown first. */
    static final class Parser {
        final String text;
        final Pattern pattern = new Pattern();
        int at;
        int items;

        Parser(String text) {
            this.text = text;
        }

        char c() {
            return at < text.length() ? text.charAt(at) : 0;
        }

        Pattern read() {
            pattern.root = choice(0);
            if (at < text.length()) {
                throw new Fault(1, at);
            }
            pattern.number(pattern.root, null, false);
            return pattern;
        }

        Node choice(int depth) {
            List<Node> rows = new ArrayList<>();
            rows.add(row(depth));
            while (c() == '|') {
                at++;
                rows.add(row(depth));
            }
            if (rows.size() == 1) {
                return rows.get(0);
            }
            Node n = new Node(6, 0);
            n.parts.addAll(rows);
            return n;
        }

        Node row(int depth) {
            Node row = new Node(5, 0);
            while (at < text.length() && c() != '|' && c() != ')') {
                if (text.startsWith("(#", at)) {
                    int end = text.indexOf(')', at);
                    if (end < 0) {
                        throw new Fault(1, text.length());
                    }
                    at = end + 1;
                    if ("*+?{".indexOf(c()) >= 0 && at < text.length()) {
                        throw new Fault(1, at);
                    }
                    continue;
                }
                row.parts.add(loop(one(depth)));
            }
            return row.parts.size() == 1 ? row.part() : row;
        }

        void item() {
            if (++items > 100) {
                throw new Fault(2, at);
            }
        }

        Node one(int depth) {
            char c = c();
            if ("*+?{}]".indexOf(c) >= 0) {
                throw new Fault(1, at);
            }
            if (c == '(') {
                return group(depth);
            }
            item();
            if (c == '[') {
                return set();
            }
            if (c == '\\') {
                return escape();
            }
            at++;
            return c == '.' ? new Node(1, 0) : c == '^' ? new Node(3, 0) : c == '$' ? new Node(3, 1) : new Node(0, c);
        }

        Node loop(Node n) {
            char c = c();
            if (at >= text.length() || "*+?{".indexOf(c) < 0) {
                return n;
            }
            item();
            at++;
            Node loop = new Node(7, 0);
            loop.least = c == '+' ? 1 : 0;
            loop.most = c == '?' ? 1 : NONE;
            if (c == '{') {
                loop.least = count(0);
                loop.most = loop.least;
                if (c() == ',') {
                    at++;
                    loop.most = c() == '}' ? NONE : count(loop.least);
                }
                if (c() != '}') {
                    throw new Fault(1, at);
                }
                at++;
            }
            loop.manner = c() == '?' ? 1 : c() == '+' ? 2 : 0;
            at += loop.manner > 0 ? 1 : 0;
            loop.parts.add(n);
            return loop;
        }

        int count(int least) {
            int begin = at;
            while (at < begin + 2 && Character.isDigit(c())) {
                at++;
            }
            if (at == begin) {
                throw new Fault(1, at);
            }
            int n = Integer.parseInt(text.substring(begin, at));
            if (n > 20 || n < least) {
                throw new Fault(3, begin);
            }
            return n;
        }

        Node group(int depth) {
            char mark = at + 1 < text.length() ? text.charAt(at + 1) : 0;
            boolean marked = mark != 0 && ":=!<~*%@".indexOf(mark) >= 0;
            boolean capture = !marked || mark == '@';
            if (depth > 8 || capture && pattern.captures == 9) {
                throw new Fault(2, at);
            }
            item();
            at += marked ? 2 : 1;
            Node n = new Node(8, 0);
            if (capture) {
                n.value = ++pattern.captures;
            }
            if (mark == '@') {
                n.name = c();
                if (n.name < 'a' || n.name > 'z') {
                    throw new Fault(1, at);
                }
                if (pattern.names.put(n.name, n.value) != null) {
                    throw new Fault(3, at);
                }
                at++;
            }
            Node inner = choice(depth + 1);
            if (c() != ')') {
                throw new Fault(1, at);
            }
            at++;
            if (mark == ':') {
                return inner;
            }
            if (!capture) {
                n.sort = mark == '*' ? 10 : mark == '%' ? 11 : 9;
                n.value = n.sort == 9 ? "=!<~".indexOf(mark) : 0;
            }
            n.parts.add(inner);
            return n;
        }

        Node escape() {
            at++;
            char c = c();
            if (c == 'x') {
                at++;
                return new Node(0, hex());
            }
            if (c == 'b' || c == 'B') {
                at++;
                return new Node(3, c == 'b' ? 2 : 3);
            }
            if (c == 'd' || c == 'w') {
                at++;
                Node n = new Node(2, 0);
                n.ranges.add(new int[] {'0', '9'});
                if (c == 'w') {
                    n.ranges.add(new int[] {'A', 'Z'});
                    n.ranges.add(new int[] {'_', '_'});
                    n.ranges.add(new int[] {'a', 'z'});
                }
                return n;
            }
            if (c >= '1' && c <= '9') {
                if (c - '0' > pattern.captures) {
                    throw new Fault(3, at);
                }
                at++;
                return new Node(4, c - '0');
            }
            if (c == '@') {
                at++;
                char name = c();
                if (name < 'a' || name > 'z') {
                    throw new Fault(1, at);
                }
                if (!pattern.names.containsKey(name)) {
                    throw new Fault(3, at);
                }
                at++;
                return new Node(4, pattern.names.get(name));
            }
            if (c == 0 || Character.isLetterOrDigit(c)) {
                throw new Fault(1, at);
            }
            at++;
            return new Node(0, c);
        }

        int hex() {
            int code = 0;
            for (int i = 0; i < 4; i++) {
                int digit = "0123456789abcdef".indexOf(c());
                if (digit < 0 || c() == 0) {
                    throw new Fault(1, at);
                }
                code = code * 16 + digit;
                at++;
            }
            return code;
        }

        Node set() {
            at++;
            Node n = new Node(2, 0);
            if (c() == '^') {
                n.turned = true;
                at++;
            }
            BitSet in = new BitSet();
            do {
                int begin = member();
                int end = begin;
                if (c() == '-') {
                    at++;
                    int where = at;
                    end = member();
                    if (end < begin) {
                        throw new Fault(3, where);
                    }
                }
                in.set(begin, end + 1);
            } while (c() != ']');
            at++;
            for (int i = in.nextSetBit(0); i >= 0; i = in.nextSetBit(in.nextClearBit(i))) {
                n.ranges.add(new int[] {i, in.nextClearBit(i) - 1});
            }
            return n;
        }

        int member() {
            char c = c();
            if (c == 0 || "[]^-".indexOf(c) >= 0) {
                throw new Fault(1, at);
            }
            at++;
            if (c != '\\') {
                return c;
            }
            c = c();
            if (c == 'x') {
                at++;
                return hex();
            }
            if (c == 0 || Character.isLetterOrDigit(c)) {
                throw new Fault(1, at);
            }
            at++;
            return c;
        }
    }

    // ---- printing

    static String code(int c) {
        return String.format("\\x%04x", c);
    }

    /** Each node prints what stands in it; where a mark could be read, the text is mended afterwards. */
    static String print(Node n) {
        switch (n.sort) {
            case 0:
                return n.value < 32 || n.value > 126 ? code(n.value) : "\\|*+?{}()[].^$".indexOf(n.value) >= 0 ? "\\" + (char) n.value : "" + (char) n.value;
            case 1:
                return ".";
            case 2:
                StringBuilder s = new StringBuilder(n.turned ? "[^" : "[");
                for (int[] r : n.ranges) {
                    s.append(member(r[0])).append(r[0] == r[1] ? "" : "-" + member(r[1]));
                }
                return s.append("]").toString();
            case 3:
                return new String[] {"^", "$", "\\b", "\\B"}[n.value];
            case 4:
                return "\\" + n.value;
            case 5:
                StringBuilder row = new StringBuilder();
                for (Node p : n.parts) {
                    row.append(p.sort == 5 || p.sort == 6 ? "(:" + print(p) + ")" : print(p));
                }
                return row.toString();
            case 6:
                StringBuilder choice = new StringBuilder();
                for (int i = 0; i < n.parts.size(); i++) {
                    Node p = n.parts.get(i);
                    choice.append(i == 0 ? "" : "|").append(p.sort == 6 ? "(:" + print(p) + ")" : print(p));
                }
                return choice.toString();
            case 7:
                Node p = n.part();
                String inner = p.sort >= 5 && p.sort <= 7 ? "(:" + print(p) + ")" : print(p);
                return inner + times(n) + new String[] {"", "?", "+"}[n.manner];
            case 8:
                String held = print(n.part());
                if (n.name != 0) {
                    return "(@" + n.name + held + ")";
                }
                boolean mended = !held.isEmpty() && ":=!<~%@#".indexOf(held.charAt(0)) >= 0;
                return "(" + (mended ? code(held.charAt(0)) + held.substring(1) : held) + ")";
            case 9:
                return "(" + "=!<~".charAt(n.value) + print(n.part()) + ")";
            case 10:
                return "(*" + print(n.part()) + ")";
            default:
                return "(%" + print(n.part()) + ")";
        }
    }

    static String times(Node n) {
        if (n.most == NONE) {
            return n.least == 0 ? "*" : n.least == 1 ? "+" : "{" + n.least + ",}";
        }
        return n.least == 0 && n.most == 1 ? "?" : n.least == n.most ? "{" + n.least + "}" : "{" + n.least + "," + n.most + "}";
    }

    static String member(int c) {
        return c < 32 || c > 126 ? code(c) : "[]^-\\".indexOf(c) >= 0 ? "\\" + (char) c : "" + (char) c;
    }

    // ---- ways

    interface Then {
        boolean go(int place, int[] caps);
    }

    static final class Stop extends RuntimeException {
        private static final long serialVersionUID = 1;

        Stop() {
            super(null, null, false, false);
        }
    }

    /** Goes through the ways of a node in order, until what comes then says that it is content. */
    static final class Ways {
        final String s;
        final int limit;
        int steps;
        int[] result;

        Ways(String s, int limit) {
            this.s = s;
            this.limit = limit;
        }

        void step() {
            if (steps == limit) {
                throw new Stop();
            }
            steps++;
        }

        boolean word(int i) {
            return i >= 0 && i < s.length() && (s.charAt(i) == '_' || s.charAt(i) < 128 && Character.isLetterOrDigit(s.charAt(i)));
        }

        boolean ways(Node n, int p, int[] caps, Then then) {
            switch (n.sort) {
                case 0: case 1: case 2:
                    step();
                    return p < s.length() && n.takes(s.charAt(p)) && then.go(p + 1, caps);
                case 3:
                    step();
                    boolean at = n.value == 0 ? p == 0 : n.value == 1 ? p == s.length() : word(p - 1) != word(p) == (n.value == 2);
                    return at && then.go(p, caps);
                case 4:
                    step();
                    return back(n, p, caps, then);
                case 5:
                    return row(n, 0, p, caps, then);
                case 6:
                    step();
                    for (Node row : n.parts) {
                        if (ways(row, p, caps, then)) {
                            return true;
                        }
                    }
                    return false;
                case 7:
                    if (n.manner != 2) {
                        return loop(n, n.manner == 1, 0, p, caps, then);
                    }
                    step();
                    int[] way = firstWay((q, c, t) -> loop(n, false, 0, q, c, t), p, caps, NONE);
                    return way != null && then.go(way[0], Arrays.copyOfRange(way, 1, way.length));
                case 8:
                    return ways(n.part(), p, caps, (q, c) -> {
                        int[] mine = c.clone();
                        mine[2 * n.value] = p;
                        mine[2 * n.value + 1] = q;
                        return then.go(q, mine);
                    });
                case 9:
                    step();
                    return look(n, p, caps, then);
                case 10:
                    step();
                    int[] cut = firstWay((q, c, t) -> ways(n.part(), q, c, t), p, caps, NONE);
                    return cut != null && then.go(cut[0], Arrays.copyOfRange(cut, 1, cut.length));
                default:
                    return ways(n.part(), p, caps, then);
            }
        }

        boolean back(Node n, int p, int[] caps, Then then) {
            int begin = caps[2 * n.value];
            if (begin == NONE) {
                return false;
            }
            String was = s.substring(begin, caps[2 * n.value + 1]);
            if (p + was.length() > s.length()) {
                return false;
            }
            String is = s.substring(p, p + was.length());
            for (int i = 0; i < was.length(); i++) {
                char a = was.charAt(i);
                char b = is.charAt(i);
                boolean letters = a < 128 && b < 128 && Character.isLetter(a) && Character.isLetter(b);
                if (a != b && !(n.inCase && letters && Character.toLowerCase(a) == Character.toLowerCase(b))) {
                    return false;
                }
            }
            return then.go(p + was.length(), caps);
        }

        boolean row(Node n, int i, int p, int[] caps, Then then) {
            if (i == n.parts.size()) {
                return then.go(p, caps);
            }
            return ways(n.parts.get(i), p, caps, (q, c) -> row(n, i + 1, q, c, then));
        }

        boolean loop(Node n, boolean spare, int turns, int p, int[] caps, Then then) {
            if (turns < n.least) {
                step();
                return ways(n.part(), p, caps, (q, c) -> loop(n, spare, turns + 1, q, c, then));
            }
            if (spare && then.go(p, caps)) {
                return true;
            }
            if (n.most == NONE || turns < n.most) {
                step();
                if (ways(n.part(), p, caps, (q, c) -> q != p && loop(n, spare, turns + 1, q, c, then))) {
                    return true;
                }
            }
            return !spare && then.go(p, caps);
        }

        interface Inner {
            boolean go(int place, int[] caps, Then then);
        }

        /** The first way that ends at a place (NONE: anywhere), its end and then its captures. */
        int[] firstWay(Inner inner, int p, int[] caps, int end) {
            int[][] way = new int[1][];
            inner.go(p, caps, (q, c) -> {
                if (end != NONE && q != end) {
                    return false;
                }
                way[0] = new int[c.length + 1];
                way[0][0] = q;
                System.arraycopy(c, 0, way[0], 1, c.length);
                return true;
            });
            return way[0];
        }

        boolean look(Node n, int p, int[] caps, Then then) {
            int[] way = null;
            if (n.value < 2) {
                way = firstWay((q, c, t) -> ways(n.part(), q, c, t), p, caps, NONE);
            } else {
                for (int from = p; from >= 0 && way == null; from--) {
                    step();
                    way = firstWay((q, c, t) -> ways(n.part(), q, c, t), from, caps, p);
                }
            }
            if (n.value == 0 || n.value == 2) {
                return way != null && then.go(p, Arrays.copyOfRange(way, 1, way.length));
            }
            return way == null && then.go(p, caps);
        }

        boolean find(Pattern pattern, int from, boolean whole) {
            for (int f = from; f <= (whole ? from : s.length()); f++) {
                int begin = f;
                int[] caps = new int[2 * pattern.captures + 2];
                Arrays.fill(caps, NONE);
                boolean done = ways(pattern.root, f, caps, (q, c) -> {
                    if (whole && q != s.length()) {
                        return false;
                    }
                    result = c.clone();
                    result[0] = begin;
                    result[1] = q;
                    return true;
                });
                if (done) {
                    return true;
                }
            }
            return false;
        }
    }

    // ---- tables, by first, last and follow of the positions

    static final class Positions {
        final List<Node> leaves = new ArrayList<>();
        final List<Set<Integer>> follow = new ArrayList<>();

        static final class Part {
            boolean empty;
            final Set<Integer> first = new HashSet<>();
            final Set<Integer> last = new HashSet<>();
        }

        Part epsilon() {
            Part p = new Part();
            p.empty = true;
            return p;
        }

        Part join(Part a, Part b) {
            for (int l : a.last) {
                follow.get(l).addAll(b.first);
            }
            Part p = new Part();
            p.empty = a.empty && b.empty;
            p.first.addAll(a.first);
            if (a.empty) {
                p.first.addAll(b.first);
            }
            p.last.addAll(b.last);
            if (b.empty) {
                p.last.addAll(a.last);
            }
            return p;
        }

        Part of(Node n) {
            switch (n.sort) {
                case 0: case 1: case 2:
                    Part leaf = new Part();
                    leaf.first.add(leaves.size());
                    leaf.last.add(leaves.size());
                    leaves.add(n);
                    follow.add(new HashSet<>());
                    return leaf;
                case 5:
                    Part row = epsilon();
                    for (Node p : n.parts) {
                        row = join(row, of(p));
                    }
                    return row;
                case 6:
                    Part choice = new Part();
                    for (Node p : n.parts) {
                        Part one = of(p);
                        choice.empty |= one.empty;
                        choice.first.addAll(one.first);
                        choice.last.addAll(one.last);
                    }
                    return choice;
                case 7:
                    return loop(n);
                default:
                    return of(n.part());
            }
        }

        /** The copies one by one; after the least the text may end behind each. */
        Part loop(Node n) {
            int copies = n.most == NONE ? n.least + 1 : n.most;
            Part done = epsilon();
            Part all = new Part();
            all.empty = n.least == 0;
            for (int i = 1; i <= copies; i++) {
                Part copy = of(n.part());
                if (n.most == NONE && i == copies) {
                    join(copy, copy);
                }
                done = join(done, copy);
                all.first.addAll(done.first);
                if (i >= n.least) {
                    all.empty |= done.empty;
                    all.last.addAll(done.last);
                }
            }
            return all;
        }
    }

    static final class Dfa {
        final List<Integer> signs;
        final List<Set<Integer>> states = new ArrayList<>();
        final List<int[]> goes = new ArrayList<>();
        final List<Boolean> ends = new ArrayList<>();
        boolean large;

        Dfa(Pattern pattern, List<Integer> signs) {
            this.signs = signs;
            Positions positions = new Positions();
            Positions.Part all = positions.of(pattern.root);
            Map<Set<Integer>, Integer> known = new LinkedHashMap<>();
            states.add(null);
            for (int s = 0; s < states.size(); s++) {
                if (states.size() > 60) {
                    large = true;
                    return;
                }
                Set<Integer> ahead = new HashSet<>();
                if (s == 0) {
                    ahead.addAll(all.first);
                    ends.add(all.empty);
                } else {
                    boolean end = false;
                    for (int p : states.get(s)) {
                        ahead.addAll(positions.follow.get(p));
                        end |= all.last.contains(p);
                    }
                    ends.add(end);
                }
                int[] row = new int[signs.size()];
                for (int i = 0; i < row.length; i++) {
                    Set<Integer> next = new HashSet<>();
                    for (int p : ahead) {
                        if (positions.leaves.get(p).takes(signs.get(i))) {
                            next.add(p);
                        }
                    }
                    if (!known.containsKey(next)) {
                        known.put(next, states.size());
                        states.add(next);
                    }
                    row[i] = known.get(next);
                }
                goes.add(row);
            }
            large = states.size() > 60;
        }

        int next(int state, int c) {
            int i = 0;
            while (i + 1 < signs.size() && signs.get(i + 1) <= c) {
                i++;
            }
            return goes.get(state)[i];
        }

        boolean live(int state) {
            List<Integer> seen = new ArrayList<>(List.of(state));
            for (int i = 0; i < seen.size(); i++) {
                if (ends.get(seen.get(i))) {
                    return true;
                }
                for (int next : goes.get(seen.get(i))) {
                    if (!seen.contains(next)) {
                        seen.add(next);
                    }
                }
            }
            return false;
        }

        /** Counts the states that no earlier one equals, by marking the pairs that a text parts. */
        int least() {
            int n = states.size();
            boolean[][] parted = new boolean[n][n];
            boolean more = true;
            while (more) {
                more = false;
                for (int a = 0; a < n; a++) {
                    for (int b = 0; b < n; b++) {
                        boolean now = ends.get(a) != ends.get(b);
                        for (int i = 0; !now && i < signs.size(); i++) {
                            now = parted[goes.get(a)[i]][goes.get(b)[i]];
                        }
                        if (now && !parted[a][b]) {
                            parted[a][b] = true;
                            more = true;
                        }
                    }
                }
            }
            int count = 0;
            for (int a = 0; a < n; a++) {
                boolean fresh = true;
                for (int b = 0; b < a; b++) {
                    fresh &= parted[a][b];
                }
                count += fresh ? 1 : 0;
            }
            return count;
        }
    }

    /** Signs at which what the leaves take can change; each stands for those up to the next. */
    static List<Integer> signsOf(Pattern... patterns) {
        TreeSet<Integer> at = new TreeSet<>(List.of(0, 10, 11));
        for (Pattern pattern : patterns) {
            for (Node n : pattern.nodes) {
                if (n.sort == 0) {
                    at.addAll(List.of(n.value, n.value + 1));
                }
                for (int[] r : n.ranges) {
                    at.addAll(List.of(r[0], r[1] + 1));
                }
            }
        }
        for (int c : at.toArray(new Integer[0])) {
            if (c >= 'A' && c <= 'z' + 1) {
                at.add(c ^ 32);
                at.add(c + 32);
                at.add(c - 32);
            }
        }
        at.addAll(List.of((int) 'A', 'Z' + 1, (int) 'a', 'z' + 1));
        at.removeIf(c -> c > 65535);
        return new ArrayList<>(at);
    }

    // ---- the calls

    String tape = "";
    final Pattern[] patterns = new Pattern[6];
    final String[] subjects = new String[4];
    List<Integer> out = new ArrayList<>();
    boolean numbers;
    int place = NONE;
    int finding;
    int steps;
    int openSlot = NONE;
    int openSubject = NONE;
    int openFrom;
    int[] found;

    int feed(int n, long w) {
        if (n < 1 || n > 8) {
            return OUTSIDE;
        }
        StringBuilder s = new StringBuilder();
        for (int i = n - 1; i >= 0; i--) {
            s.append((char) (w >> 8 * i & 255));
        }
        if (s.chars().anyMatch(c -> c < 32 || c > 126)) {
            return OUTSIDE;
        }
        if (tape.length() + n > 200) {
            return ROOM;
        }
        tape += s;
        return tape.length();
    }

    int pattern(int slot) {
        if (slot < 0 || slot > 5) {
            return UNKNOWN;
        }
        String text = tape;
        tape = "";
        try {
            patterns[slot] = new Parser(text).read();
            place = NONE;
        } catch (Fault f) {
            place = f.place;
            return -20 - f.kind;
        }
        if (openSlot == slot) {
            openSlot = NONE;
        }
        return patterns[slot].nodes.size();
    }

    Pattern slot(int slot) {
        if (slot < 0 || slot > 5) {
            return null;
        }
        if (patterns[slot] == null) {
            finding = 2;
        }
        return patterns[slot];
    }

    int noSubject(int subject) {
        if (subject < 0 || subject > 3) {
            return UNKNOWN;
        }
        if (subjects[subject] == null) {
            finding = 2;
            return NO_SUBJECT;
        }
        return 0;
    }

    int forget(int slot) {
        if (slot(slot) == null) {
            return UNKNOWN;
        }
        patterns[slot] = null;
        if (openSlot == slot) {
            openSlot = NONE;
        }
        return 1;
    }

    int node(int slot, int k, int what) {
        Pattern p = slot(slot);
        if (p == null) {
            return UNKNOWN;
        }
        if (k < 0 || k >= p.nodes.size() || what < 0 || what > 18 || what > 6 && what < 10) {
            return OUTSIDE;
        }
        Node n = p.nodes.get(k);
        int[] sorts = {0, 2, 3, 4, 8, 9, 7, 7, 7};
        if (what >= 10 && n.sort != sorts[what - 10]) {
            finding = 3;
            return KIND;
        }
        switch (what) {
            case 0:
                return n.sort;
            case 1:
                return n.sort == 2 ? n.ranges.size() : n.parts.size();
            case 2:
                return n.holder == null ? NONE : n.holder.number;
            case 3:
                return (int) Math.min(20000, n.size());
            case 4:
                return (int) Math.min(20000, n.positions());
            case 5:
                return n.mayBeEmpty() ? 1 : 0;
            case 6:
                return n.inCase ? 1 : 0;
            case 11:
                return n.turned ? 1 : 0;
            case 16:
                return n.least;
            case 17:
                return n.most;
            case 18:
                return n.manner;
            default:
                return n.value;
        }
    }

    int part(int slot, int k, int i, boolean end) {
        Pattern p = slot(slot);
        if (p == null) {
            return UNKNOWN;
        }
        if (k < 0 || k >= p.nodes.size()) {
            return OUTSIDE;
        }
        Node n = p.nodes.get(k);
        if (n.sort != 2) {
            finding = 3;
            return KIND;
        }
        if (i < 0 || i >= n.ranges.size()) {
            finding = 1;
            return OUTSIDE;
        }
        return n.ranges.get(i)[end ? 1 : 0];
    }

    int print(int slot) {
        Pattern p = slot(slot);
        return p == null ? UNKNOWN : tell(print(p.root));
    }

    int tell(String text) {
        if (text.length() > 400) {
            finding = 4;
            return ROOM;
        }
        out = new ArrayList<>();
        text.chars().forEach(out::add);
        numbers = false;
        return out.size();
    }

    int begins(int slot, int c) {
        Pattern p = slot(slot);
        return p == null ? UNKNOWN : c < 0 || c > 65535 ? OUTSIDE : p.root.begins(c) ? 1 : 0;
    }

    int risky(int slot) {
        Pattern p = slot(slot);
        if (p == null) {
            return UNKNOWN;
        }
        List<Integer> signs = signsOf(p);
        for (Node outer : p.nodes) {
            for (Node inner : p.nodes) {
                boolean within = false;
                for (Node up = inner.holder; up != null; up = up.holder) {
                    within |= up == outer;
                }
                boolean loops = outer.sort == 7 && outer.most == NONE && inner.sort == 7 && inner.most == NONE;
                if (within && loops && signs.stream().anyMatch(c -> outer.part().begins(c) && inner.part().begins(c))) {
                    return outer.number;
                }
            }
        }
        return NONE;
    }

    int dead(int slot, int k) {
        Pattern p = slot(slot);
        if (p == null) {
            return UNKNOWN;
        }
        if (k < 0) {
            return OUTSIDE;
        }
        List<Integer> dead = new ArrayList<>();
        for (Node n : p.nodes) {
            if (n.holder != null && n.holder.sort == 6) {
                List<Node> rows = n.holder.parts;
                if (rows.subList(0, rows.indexOf(n)).stream().anyMatch(r -> print(r).equals(print(n)))) {
                    dead.add(n.number);
                }
            }
        }
        return k < dead.size() ? dead.get(k) : NONE;
    }

    int put(int subject, int n, long w) {
        if (subject < 0 || subject > 3) {
            return UNKNOWN;
        }
        if (n < 0 || n > 4) {
            return OUTSIDE;
        }
        String was = subjects[subject] == null ? "" : subjects[subject];
        if (was.length() + n > 100) {
            return ROOM;
        }
        for (int i = n - 1; i >= 0; i--) {
            was += (char) (w >> 16 * i);
        }
        subjects[subject] = was;
        if (openSubject == subject) {
            openSlot = NONE;
        }
        return was.length();
    }

    int drop(int subject) {
        int no = noSubject(subject);
        if (no != 0) {
            return no;
        }
        int had = subjects[subject].length();
        subjects[subject] = null;
        if (openSubject == subject) {
            openSlot = NONE;
        }
        return had;
    }

    char sign(int subject, int i) {
        return subjects[subject].toCharArray()[i];
    }

    int refusal(Pattern p, int machine) {
        return !p.kindFits(machine) ? KIND : p.large(machine) ? LARGE : 0;
    }

    int[] latest;

    int search(Pattern p, String s, int from, int machine, int limit, boolean whole) {
        openSlot = NONE;
        Ways ways = new Ways(s, machine == 0 ? limit : 30000);
        boolean done;
        try {
            done = ways.find(p, from, whole);
        } catch (Stop e) {
            if (machine != 0) {
                throw new TooLong();
            }
            steps = ways.steps;
            return ways.steps == 3000 ? SPENT : MORE;
        }
        steps = machine == 0 ? ways.steps : 0;
        latest = ways.result;
        return done ? 1 : 0;
    }

    int keep(int answer) {
        if (answer == 1) {
            found = latest;
        } else if (answer == 0) {
            found = null;
        }
        return answer;
    }

    int find(int slot, int subject, int from, int machine, int steps) {
        Pattern p = slot(slot);
        int no = p == null ? UNKNOWN : noSubject(subject);
        if (no != 0) {
            return no;
        }
        String s = subjects[subject];
        if (from < 0 || from > s.length() || machine < 0 || machine > 2 || machine == 0 && (steps < 1 || steps > 3000)) {
            return OUTSIDE;
        }
        if (refusal(p, machine) != 0) {
            return refusal(p, machine);
        }
        int answer = keep(search(p, s, from, machine, steps, false));
        if (answer == MORE) {
            openSlot = slot;
            openSubject = subject;
            openFrom = from;
        }
        return answer;
    }

    int goOn(int more) {
        if (more < 1 || more > 3000) {
            return OUTSIDE;
        }
        if (openSlot == NONE) {
            return STATE;
        }
        int slot = openSlot;
        int answer = keep(search(patterns[slot], subjects[openSubject], openFrom, 0, Math.min(3000, steps + more), false));
        if (answer == MORE) {
            openSlot = slot;
        }
        return answer;
    }

    int span(int k, boolean end) {
        if (found == null) {
            return UNKNOWN;
        }
        if (k < 0 || k > found.length / 2 - 1) {
            finding = 1;
            return OUTSIDE;
        }
        return found[2 * k + (end ? 1 : 0)];
    }

    int named(int slot, int name) {
        Pattern p = slot(slot);
        return p == null ? UNKNOWN : name < 97 || name > 122 ? OUTSIDE : p.names.getOrDefault((char) name, NONE);
    }

    int refusalOfCall(int slot, int subject, int machine) {
        Pattern p = slot(slot);
        int no = p == null ? UNKNOWN : noSubject(subject);
        return no != 0 ? no : machine < 0 || machine > 2 ? OUTSIDE : 0;
    }

    int whole(int slot, int subject, int machine) {
        int no = refusalOfCall(slot, subject, machine);
        no = no != 0 ? no : refusal(patterns[slot], machine);
        return no != 0 ? no : keep(search(patterns[slot], subjects[subject], 0, machine, 3000, true));
    }

    /** All finds, each with its captures; null: spent. */
    List<int[]> finds(Pattern p, String s, int machine) {
        List<int[]> finds = new ArrayList<>();
        int from = 0;
        while (from <= s.length()) {
            int answer = search(p, s, from, machine, 3000, false);
            if (answer == SPENT) {
                return null;
            }
            if (answer == 0) {
                break;
            }
            finds.add(latest);
            from = latest[1] == latest[0] ? latest[1] + 1 : latest[1];
        }
        return finds;
    }

    int all(int slot, int subject, int machine) {
        int no = refusalOfCall(slot, subject, machine);
        no = no != 0 ? no : refusal(patterns[slot], machine);
        if (no != 0) {
            return no;
        }
        List<int[]> finds = finds(patterns[slot], subjects[subject], machine);
        if (finds == null) {
            return SPENT;
        }
        out = new ArrayList<>();
        numbers = true;
        finds.forEach(f -> out.addAll(List.of(f[0], f[1])));
        return finds.size();
    }

    int replace(int slot, int subject, int machine) {
        int no = refusalOfCall(slot, subject, machine);
        if (no != 0) {
            return no;
        }
        Pattern p = patterns[slot];
        String rest = tape.replaceAll("\\$[^0-9]", "");
        if (rest.endsWith("$") || rest.matches(".*\\$[" + (p.captures == 9 ? "x" : p.captures + 1 + "-9") + "].*")) {
            return STATE;
        }
        if (refusal(p, machine) != 0) {
            return refusal(p, machine);
        }
        List<int[]> finds = finds(p, subjects[subject], machine);
        if (finds == null) {
            return SPENT;
        }
        StringBuilder text = new StringBuilder();
        int copied = 0;
        for (int[] f : finds) {
            text.append(subjects[subject], copied, f[0]);
            for (int i = 0; i < tape.length(); i++) {
                char c = tape.charAt(i);
                if (c == '$') {
                    c = tape.charAt(++i);
                    if (Character.isDigit(c)) {
                        int k = c - '0';
                        text.append(f[2 * k] == NONE ? "" : subjects[subject].substring(f[2 * k], f[2 * k + 1]));
                        continue;
                    }
                }
                text.append(c);
            }
            copied = f[1];
        }
        text.append(subjects[subject].substring(copied));
        int answer = tell(text.toString());
        if (answer != ROOM) {
            tape = "";
        }
        return answer;
    }

    int first(int bits, int subject, int from, int machine) {
        if (bits < 1 || bits > 63) {
            return UNKNOWN;
        }
        List<Integer> slots = new ArrayList<>();
        for (int i = 0; i < 6; i++) {
            if ((bits & 1 << i) != 0) {
                slots.add(i);
            }
        }
        for (int i : slots) {
            if (slot(i) == null) {
                return UNKNOWN;
            }
        }
        int no = noSubject(subject);
        if (no != 0) {
            return no;
        }
        if (from < 0 || from > subjects[subject].length() || machine < 0 || machine > 2) {
            return OUTSIDE;
        }
        if (slots.stream().anyMatch(i -> !patterns[i].kindFits(machine))) {
            return KIND;
        }
        if (slots.stream().anyMatch(i -> patterns[i].large(machine))) {
            return LARGE;
        }
        int best = NONE;
        int bestPlace = 1000;
        for (int i : slots) {
            int answer = search(patterns[i], subjects[subject], from, machine, 3000, false);
            if (answer == SPENT) {
                return SPENT;
            }
            if (answer == 1 && latest[0] < bestPlace) {
                best = i;
                bestPlace = latest[0];
            }
        }
        return best;
    }

    int refusalOfTables(Pattern... ps) {
        for (Pattern p : ps) {
            if (!p.kindFits(2)) {
                return KIND;
            }
        }
        for (Pattern p : ps) {
            if (p.large(2) || new Dfa(p, signsOf(p)).large) {
                return LARGE;
            }
        }
        return 0;
    }

    int prefix(int slot, int subject, int from) {
        int no = refusalOfCall(slot, subject, 0);
        if (no != 0) {
            return no;
        }
        String s = subjects[subject];
        if (from < 0 || from > s.length()) {
            return OUTSIDE;
        }
        Pattern p = patterns[slot];
        if (refusalOfTables(p) != 0) {
            return refusalOfTables(p);
        }
        Dfa dfa = new Dfa(p, signsOf(p));
        int state = 0;
        int length = NONE;
        while (dfa.live(state)) {
            length++;
            if (from + length == s.length()) {
                break;
            }
            state = dfa.next(state, s.charAt(from + length));
        }
        return length;
    }

    int table(int slot) {
        Pattern p = slot(slot);
        int no = p == null ? UNKNOWN : refusalOfTables(p);
        return no != 0 ? no : new Dfa(p, signsOf(p)).states.size();
    }

    int least(int slot) {
        Pattern p = slot(slot);
        int no = p == null ? UNKNOWN : refusalOfTables(p);
        return no != 0 ? no : new Dfa(p, signsOf(p)).least();
    }

    /** The least of the shortest texts that only the first, and that only the second has; null for none. */
    String[] onlyIn(Pattern a, Pattern b) {
        List<Integer> signs = signsOf(a, b);
        Dfa da = new Dfa(a, signs);
        Dfa db = new Dfa(b, signs);
        Map<List<Integer>, String> seen = new LinkedHashMap<>();
        List<List<Integer>> order = new ArrayList<>();
        order.add(List.of(0, 0));
        seen.put(order.get(0), "");
        String[] only = new String[3];
        for (int i = 0; i < order.size(); i++) {
            int sa = order.get(i).get(0);
            int sb = order.get(i).get(1);
            String text = seen.get(order.get(i));
            if (da.ends.get(sa) != db.ends.get(sb)) {
                int which = da.ends.get(sa) ? 0 : 1;
                only[which] = only[which] == null ? text : only[which];
                only[2] = only[2] == null ? text : only[2];
            }
            for (int c = 0; c < signs.size(); c++) {
                List<Integer> next = List.of(da.goes.get(sa)[c], db.goes.get(sb)[c]);
                if (!seen.containsKey(next)) {
                    seen.put(next, text + (char) (int) signs.get(c));
                    order.add(next);
                }
            }
        }
        return only;
    }

    int compare(int a, int b) {
        Pattern pa = slot(a);
        Pattern pb = pa == null ? null : slot(b);
        int no = pb == null ? UNKNOWN : refusalOfTables(pa, pb);
        if (no != 0) {
            return no;
        }
        String[] only = onlyIn(pa, pb);
        return only[0] == null ? only[1] == null ? 3 : 1 : only[1] == null ? 2 : 0;
    }

    int parting(int a, int b) {
        Pattern pa = slot(a);
        Pattern pb = pa == null ? null : slot(b);
        int no = pb == null ? UNKNOWN : refusalOfTables(pa, pb);
        if (no != 0) {
            return no;
        }
        String text = onlyIn(pa, pb)[2];
        return text == null ? NONE : tell(text);
    }

    int out(int i) {
        if (i < 0 || i >= out.size()) {
            throw new ArrayIndexOutOfBoundsException();
        }
        return out.get(i);
    }

    int told(int what) {
        switch (what) {
            case 0:
                return tape.length();
            case 1:
                return (int) Arrays.stream(patterns).filter(p -> p != null).count();
            case 2:
                return (int) Arrays.stream(subjects).filter(s -> s != null).count();
            case 3:
                return out.size();
            case 4:
                return numbers ? 1 : 0;
            case 5:
                return found == null ? 0 : found.length / 2 - 1;
            case 6:
                return openSlot == NONE ? 0 : 1;
            default:
                return OUTSIDE;
        }
    }
}
