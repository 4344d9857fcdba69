import java.util.Arrays;

/**
 * A workshop for text patterns: they are read to trees, printed, looked for in subjects by three
 * machines that agree, and compared as sets of texts. README.md tells how to use it.
 */
public final class PatternWorkshop {
    public static final int NONE = -1, UNKNOWN = -2, NO_SUBJECT = -3, OUTSIDE = -4, STATE = -5, KIND = -6, LARGE = -7, SPENT = -8, ROOM = -9, MORE = 2;

    private static final int TAPE_ROOM = 200, SLOTS = 6, SUBJECTS = 4, SUBJECT_ROOM = 100, OUT_ROOM = 400;
    private static final int STEP_ROOM = 3000, CAPTURE_ROOM = 9, ITEM_ROOM = 100, GROUP_ROOM = 9, COUNT_ROOM = 20;
    private static final int LAST_SIGN = 65535, TOLD_ROOM = 20000, SIZE_ROOM = 200, POSITION_ROOM = 60, STATE_ROOM = 60;

    // A text of 200 signs makes 211 nodes at most: one a sign, one more a capture, a row and a choice round all.
    private static final int NODE_ROOM = 256;
    // \w has four parts for two signs, nothing else has more than one a sign.
    private static final int RANGE_ROOM = 512;
    // A node of SIZE s makes 2 s - 1 instructions at most; one more is the end.
    private static final int PROGRAM_ROOM = 512;
    // Two patterns part the signs at 32 to 127, at 0, 10, 11, and twice for each \x: 231 at most.
    private static final int CLASS_ROOM = 256;
    // Trees are some 40 levels deep at most: four a group, and a few at both ends.
    private static final int DEPTH_ROOM = 60;

    private static final int SIGN = 0, ANY = 1, SET = 2, EDGE = 3, BACK = 4, ROW = 5, CHOICE = 6, LOOP = 7, CAPTURE = 8, LOOK = 9, CUT = 10, CASE = 11;
    private static final int SPARE = 1, CUTTING = 2;
    private static final int LOOK_AHEAD = 0, NOT_AHEAD = 1, LOOK_BEHIND = 2, NOT_BEHIND = 3;
    private static final int CANNOT_STAND = 1, TOO_MANY = 2, WRONG_VALUE = 3;
    private static final int FOUND_INDEX = 1, FOUND_NOTHING = 2, FOUND_KIND = 3, FOUND_COPY = 4;
    private static final int GOING_BACK = 0, PARALLEL = 1, TABLE = 2;

    private final Row tape = new Row(TAPE_ROOM);
    private final Tree[] patterns = new Tree[SLOTS];
    private final Row[] subjects = new Row[SUBJECTS];
    private final Row outRow = new Row(OUT_ROOM);
    private boolean outHasNumbers;
    private final Row draft = new Row(OUT_ROOM);
    private final Row spans = new Row(2 * CAPTURE_ROOM + 2);
    private final Row found = new Row(2 * CAPTURE_ROOM + 2);
    private final Reader reader = new Reader();
    private final Printer printer = new Printer();
    private final GoingBack goingBack = new GoingBack();
    private final Parallel parallel = new Parallel();
    private final Sets sets = new Sets();
    private int faultPlace = NONE;
    private int latestFinding;
    private int latestSteps;
    private int openSlot = NONE;
    private int openSubject = NONE;

    public PatternWorkshop() {
        for (int i = 0; i < patterns.length; i++) {
            patterns[i] = new Tree(NODE_ROOM, RANGE_ROOM);
        }
        for (int i = 0; i < subjects.length; i++) {
            subjects[i] = new Row(SUBJECT_ROOM);
        }
    }

    // ---- patterns

    public int feed(int n, long w) {
        if (n < 1 || n > 8) {
            return OUTSIDE;
        }
        for (int i = 0; i < n; i++) {
            if (!isTapeSign(byteOf(w, i))) {
                return OUTSIDE;
            }
        }
        if (tape.count + n > TAPE_ROOM) {
            return ROOM;
        }
        for (int i = n - 1; i >= 0; i--) {
            tape.add(byteOf(w, i));
        }
        return tape.count;
    }

    public int pattern(int slot) {
        if (!isSlot(slot)) {
            return UNKNOWN;
        }
        boolean fine = reader.read(tape);
        tape.empty();
        faultPlace = reader.faultPlace;
        if (!fine) {
            return -20 - reader.fault;
        }
        patterns[slot] = reader.exchange(patterns[slot]);
        patterns[slot].there = true;
        endSearchWithSlot(slot);
        return patterns[slot].count;
    }

    public int place() {
        return faultPlace;
    }

    public int forget(int slot) {
        Tree tree = patternIn(slot);
        if (tree == null) {
            return UNKNOWN;
        }
        tree.there = false;
        endSearchWithSlot(slot);
        return 1;
    }

    public int node(int slot, int k, int what) {
        Tree tree = patternIn(slot);
        if (tree == null) {
            return UNKNOWN;
        }
        boolean ofAll = what >= 0 && what <= 6;
        if (!tree.has(k) || !ofAll && (what < 10 || what > 18)) {
            return OUTSIDE;
        }
        if (ofAll) {
            return tree.tellOfAll(k, what);
        }
        if (tree.sortOf(k) != sortThatTells(what)) {
            latestFinding = FOUND_KIND;
            return KIND;
        }
        return what == 16 ? tree.lowOf(k) : what == 17 ? tree.highOf(k) : tree.valueOf(k);
    }

    public int part(int slot, int k, int i, boolean end) {
        Tree tree = patternIn(slot);
        if (tree == null) {
            return UNKNOWN;
        }
        if (!tree.has(k)) {
            return OUTSIDE;
        }
        if (tree.sortOf(k) != SET) {
            latestFinding = FOUND_KIND;
            return KIND;
        }
        if (i < 0 || i >= tree.partsOf(k)) {
            latestFinding = FOUND_INDEX;
            return OUTSIDE;
        }
        return end ? tree.partEnd(k, i) : tree.partBegin(k, i);
    }

    public int print(int slot) {
        Tree tree = patternIn(slot);
        if (tree == null) {
            return UNKNOWN;
        }
        printer.write(tree, draft);
        if (draft.over) {
            latestFinding = FOUND_COPY;
            return ROOM;
        }
        tellRow(false);
        return outRow.count;
    }

    public int begins(int slot, int c) {
        Tree tree = patternIn(slot);
        if (tree == null) {
            return UNKNOWN;
        }
        if (c < 0 || c > LAST_SIGN) {
            return OUTSIDE;
        }
        tree.markBeginning(c);
        return tree.isMarked(0) ? 1 : 0;
    }

    public int risky(int slot) {
        Tree tree = patternIn(slot);
        if (tree == null) {
            return UNKNOWN;
        }
        sets.alphabet.gather(tree, null);
        return tree.firstRisky(sets.alphabet);
    }

    public int dead(int slot, int k) {
        Tree tree = patternIn(slot);
        if (tree == null) {
            return UNKNOWN;
        }
        return k < 0 ? OUTSIDE : tree.deadRow(k);
    }

    // ---- subjects

    public int put(int subject, int n, long w) {
        if (!isSubject(subject)) {
            return UNKNOWN;
        }
        if (n < 0 || n > 4) {
            return OUTSIDE;
        }
        Row row = subjects[subject];
        if (row.count + n > SUBJECT_ROOM) {
            return ROOM;
        }
        for (int i = n - 1; i >= 0; i--) {
            row.add((int) (w >>> 16 * i) & LAST_SIGN);
        }
        row.there = true;
        endSearchOver(subject);
        return row.count;
    }

    public int drop(int subject) {
        Row row = subjectAt(subject);
        if (row == null) {
            return refusalOfSubject(subject);
        }
        int had = row.count;
        row.empty();
        row.there = false;
        endSearchOver(subject);
        return had;
    }

    public char sign(int subject, int i) throws NullPointerException, ArrayIndexOutOfBoundsException {
        if (!isSubject(subject)) {
            throw new ArrayIndexOutOfBoundsException();
        }
        Row row = subjects[subject];
        if (!row.there) {
            throw new NullPointerException();
        }
        if (i < 0 || i >= row.count) {
            throw new ArrayIndexOutOfBoundsException();
        }
        return (char) row.at(i);
    }

    // ---- finding

    public int find(int slot, int subject, int from, int machine, int steps) {
        Tree tree = patternIn(slot);
        if (tree == null) {
            return UNKNOWN;
        }
        Row row = subjectAt(subject);
        if (row == null) {
            return refusalOfSubject(subject);
        }
        if (from < 0 || from > row.count || !isMachine(machine) || machine == GOING_BACK && !isStepCount(steps)) {
            return OUTSIDE;
        }
        int refusal = refusalByMachine(tree, machine);
        if (refusal != 0) {
            return refusal;
        }
        int answer = search(tree, row, from, machine, steps, false);
        if (answer == MORE) {
            openSlot = slot;
            openSubject = subject;
        }
        return keepSpans(answer);
    }

    public int goOn(int steps) {
        if (!isStepCount(steps)) {
            return OUTSIDE;
        }
        if (openSlot == NONE) {
            return STATE;
        }
        int answer = goingBack.proceed(steps, spans);
        latestSteps = goingBack.steps;
        if (answer != MORE) {
            endSearch();
        }
        return keepSpans(answer);
    }

    public int span(int k, boolean end) {
        if (found.count == 0) {
            return UNKNOWN;
        }
        if (k < 0 || k > capturesOfFound()) {
            latestFinding = FOUND_INDEX;
            return OUTSIDE;
        }
        return found.at(end ? 2 * k + 1 : 2 * k);
    }

    public int named(int slot, int name) {
        Tree tree = patternIn(slot);
        if (tree == null) {
            return UNKNOWN;
        }
        return isSmall(name) ? tree.captureNamed(name) : OUTSIDE;
    }

    public int whole(int slot, int subject, int machine) {
        Tree tree = patternIn(slot);
        if (tree == null) {
            return UNKNOWN;
        }
        Row row = subjectAt(subject);
        if (row == null) {
            return refusalOfSubject(subject);
        }
        if (!isMachine(machine)) {
            return OUTSIDE;
        }
        int refusal = refusalByMachine(tree, machine);
        return refusal != 0 ? refusal : keepSpans(search(tree, row, 0, machine, STEP_ROOM, true));
    }

    public int all(int slot, int subject, int machine) {
        Tree tree = patternIn(slot);
        if (tree == null) {
            return UNKNOWN;
        }
        Row row = subjectAt(subject);
        if (row == null) {
            return refusalOfSubject(subject);
        }
        if (!isMachine(machine)) {
            return OUTSIDE;
        }
        int refusal = refusalByMachine(tree, machine);
        if (refusal != 0) {
            return refusal;
        }
        int finds = draftFinds(tree, row, machine, false);
        if (finds >= 0) {
            tellRow(true);
        }
        return finds;
    }

    public int replace(int slot, int subject, int machine) {
        Tree tree = patternIn(slot);
        if (tree == null) {
            return UNKNOWN;
        }
        Row row = subjectAt(subject);
        if (row == null) {
            return refusalOfSubject(subject);
        }
        if (!isMachine(machine)) {
            return OUTSIDE;
        }
        if (!tapeTellsFor(tree)) {
            return STATE;
        }
        int refusal = refusalByMachine(tree, machine);
        if (refusal != 0) {
            return refusal;
        }
        if (draftFinds(tree, row, machine, true) == SPENT) {
            return SPENT;
        }
        if (draft.over) {
            latestFinding = FOUND_COPY;
            return ROOM;
        }
        tape.empty();
        tellRow(false);
        return outRow.count;
    }

    public int first(int bits, int subject, int from, int machine) {
        if (bits < 1 || bits >= 1 << SLOTS || !areThere(bits)) {
            return UNKNOWN;
        }
        Row row = subjectAt(subject);
        if (row == null) {
            return refusalOfSubject(subject);
        }
        if (from < 0 || from > row.count || !isMachine(machine)) {
            return OUTSIDE;
        }
        int refusal = refusalOfSome(bits, machine);
        return refusal != 0 ? refusal : searchSlots(bits, row, from, machine);
    }

    public int prefix(int slot, int subject, int from) {
        Tree tree = patternIn(slot);
        if (tree == null) {
            return UNKNOWN;
        }
        Row row = subjectAt(subject);
        if (row == null) {
            return refusalOfSubject(subject);
        }
        if (from < 0 || from > row.count) {
            return OUTSIDE;
        }
        int refusal = makeTables(tree, null);
        return refusal != 0 ? refusal : sets.longestBeginning(row, from);
    }

    public int steps() {
        return latestSteps;
    }

    // ---- sets of texts

    public int table(int slot) {
        Tree tree = patternIn(slot);
        if (tree == null) {
            return UNKNOWN;
        }
        int refusal = makeTables(tree, null);
        return refusal != 0 ? refusal : sets.one.count;
    }

    public int least(int slot) {
        Tree tree = patternIn(slot);
        if (tree == null) {
            return UNKNOWN;
        }
        int refusal = makeTables(tree, null);
        return refusal != 0 ? refusal : sets.one.fewestStates();
    }

    public int compare(int a, int b) {
        Tree treeA = patternIn(a);
        Tree treeB = treeA == null ? null : patternIn(b);
        if (treeA == null || treeB == null) {
            return UNKNOWN;
        }
        int refusal = makeTables(treeA, treeB);
        if (refusal != 0) {
            return refusal;
        }
        sets.walkBoth();
        return (sets.onlyInOne ? 0 : 1) + (sets.onlyInOther ? 0 : 2);
    }

    public int parting(int a, int b) {
        Tree treeA = patternIn(a);
        Tree treeB = treeA == null ? null : patternIn(b);
        if (treeA == null || treeB == null) {
            return UNKNOWN;
        }
        int refusal = makeTables(treeA, treeB);
        if (refusal != 0) {
            return refusal;
        }
        sets.walkBoth();
        if (!sets.onlyInOne && !sets.onlyInOther) {
            return NONE;
        }
        sets.writeParting(draft);
        if (draft.over) {
            latestFinding = FOUND_COPY;
            return ROOM;
        }
        tellRow(false);
        return outRow.count;
    }

    // ---- what is told

    public int out(int i) throws ArrayIndexOutOfBoundsException {
        if (i < 0 || i >= outRow.count) {
            throw new ArrayIndexOutOfBoundsException();
        }
        return outRow.at(i);
    }

    public int finding() {
        return latestFinding;
    }

    public int told(int what) {
        switch (what) {
            case 0:
                return tape.count;
            case 1:
                return patternsThere();
            case 2:
                return subjectsThere();
            case 3:
                return outRow.count;
            case 4:
                return outHasNumbers ? 1 : 0;
            case 5:
                return capturesOfFound();
            case 6:
                return openSlot == NONE ? 0 : 1;
            default:
                return OUTSIDE;
        }
    }

    public int clear() {
        int had = patternsThere();
        for (int i = 0; i < patterns.length; i++) {
            patterns[i].there = false;
        }
        for (int i = 0; i < subjects.length; i++) {
            subjects[i].empty();
            subjects[i].there = false;
        }
        tape.empty();
        outRow.empty();
        outHasNumbers = false;
        found.empty();
        faultPlace = NONE;
        latestFinding = 0;
        latestSteps = 0;
        endSearch();
        return had;
    }

    // ---- what the calls have in common

    private static boolean isSlot(int slot) {
        return slot >= 0 && slot < SLOTS;
    }

    private static boolean isSubject(int subject) {
        return subject >= 0 && subject < SUBJECTS;
    }

    private static boolean isMachine(int machine) {
        return machine >= GOING_BACK && machine <= TABLE;
    }

    private static boolean isStepCount(int steps) {
        return steps >= 1 && steps <= STEP_ROOM;
    }

    private static boolean isTapeSign(int c) {
        return c >= 32 && c <= 126;
    }

    private static boolean isSmall(int c) {
        return c >= 'a' && c <= 'z';
    }

    private static boolean isLetter(int c) {
        // The two cases of a letter differ in this bit alone.
        int small = c | 32;
        return small >= 'a' && small <= 'z';
    }

    private static boolean isDigit(int c) {
        return c >= '0' && c <= '9';
    }

    private static boolean isWordSign(int c) {
        int small = c | 32;
        return small >= 'a' && small <= 'z' || c >= '0' && c <= '9' || c == '_';
    }

    private static boolean isPlain(int c) {
        switch (c) {
            case '\\': case '|': case '*': case '+': case '?': case '{': case '}':
            case '(': case ')': case '[': case ']': case '.': case '^': case '$':
                return false;
            default:
                return isTapeSign(c);
        }
    }

    private static int otherCase(int c) {
        int small = c | 32;
        return small >= 'a' && small <= 'z' ? c ^ 32 : c;
    }

    private static int byteOf(long w, int i) {
        return (int) (w >>> 8 * i) & 255;
    }

    private static boolean edgeHolds(int which, Row subject, int place) {
        if (which == 0) {
            return place == 0;
        }
        if (which == 1) {
            return place == subject.count;
        }
        // Beyond both ends the row tells NONE, which is no word sign.
        boolean between = isWordSign(subject.at(place - 1)) != isWordSign(subject.at(place));
        return between == (which == 2);
    }

    private static int sortThatTells(int what) {
        switch (what) {
            case 10:
                return SIGN;
            case 11:
                return SET;
            case 12:
                return EDGE;
            case 13:
                return BACK;
            case 14:
                return CAPTURE;
            case 15:
                return LOOK;
            default:
                return LOOP;
        }
    }

    /** The pattern of a slot; null, with the finding that is due, where there is none. */
    private Tree patternIn(int slot) {
        if (!isSlot(slot)) {
            return null;
        }
        if (!patterns[slot].there) {
            latestFinding = FOUND_NOTHING;
            return null;
        }
        return patterns[slot];
    }

    private Row subjectAt(int subject) {
        return isSubject(subject) && subjects[subject].there ? subjects[subject] : null;
    }

    private int refusalOfSubject(int subject) {
        if (!isSubject(subject)) {
            return UNKNOWN;
        }
        latestFinding = FOUND_NOTHING;
        return NO_SUBJECT;
    }

    private static int refusalByMachine(Tree tree, int machine) {
        if (!tree.isTakenBy(machine)) {
            return KIND;
        }
        return tree.isTooLargeFor(machine) ? LARGE : 0;
    }

    private int patternsThere() {
        int there = 0;
        for (int i = 0; i < patterns.length; i++) {
            there += patterns[i].there ? 1 : 0;
        }
        return there;
    }

    private int subjectsThere() {
        int there = 0;
        for (int i = 0; i < subjects.length; i++) {
            there += subjects[i].there ? 1 : 0;
        }
        return there;
    }

    private void tellRow(boolean numbers) {
        outRow.take(draft);
        outHasNumbers = numbers;
    }

    private void endSearch() {
        openSlot = NONE;
        openSubject = NONE;
    }

    private void endSearchWithSlot(int slot) {
        if (openSlot == slot) {
            endSearch();
        }
    }

    private void endSearchOver(int subject) {
        if (openSubject == subject) {
            endSearch();
        }
    }

    private int search(Tree tree, Row subject, int from, int machine, int steps, boolean wholeOnly) {
        endSearch();
        latestSteps = 0;
        if (machine != GOING_BACK) {
            return parallel.run(tree, subject, from, wholeOnly, spans) ? 1 : 0;
        }
        goingBack.begin(tree, subject, from, wholeOnly);
        int answer = goingBack.proceed(steps, spans);
        latestSteps = goingBack.steps;
        return answer;
    }

    private int keepSpans(int answer) {
        if (answer == 1) {
            found.take(spans);
        } else if (answer == 0) {
            found.empty();
        }
        return answer;
    }

    private int capturesOfFound() {
        return found.count == 0 ? 0 : found.count / 2 - 1;
    }

    /** Puts all finds, or the subject with what the tape tells in their place, on the draft. */
    private int draftFinds(Tree tree, Row subject, int machine, boolean replacing) {
        draft.empty();
        int finds = 0;
        int copied = 0;
        int from = 0;
        while (from <= subject.count) {
            int answer = search(tree, subject, from, machine, STEP_ROOM, false);
            if (answer == SPENT) {
                return SPENT;
            }
            if (answer != 1) {
                break;
            }
            finds++;
            int begin = spans.at(0);
            int end = spans.at(1);
            if (replacing) {
                draft.addFrom(subject, copied, begin);
                draftReplacement(subject);
            } else {
                draft.add(begin);
                draft.add(end);
            }
            copied = end;
            // A find never lies ahead of where it was looked for, so the next one begins further on.
            from = Math.max(end > begin ? end : end + 1, from + 1);
        }
        if (replacing) {
            draft.addFrom(subject, copied, subject.count);
        }
        return finds;
    }

    private void draftReplacement(Row subject) {
        for (int i = 0; i < tape.count; i++) {
            int c = tape.at(i);
            if (c != '$') {
                draft.add(c);
                continue;
            }
            i++;
            int told = tape.at(i);
            if (isDigit(told)) {
                int capture = told - '0';
                draft.addFrom(subject, spans.at(2 * capture), spans.at(2 * capture + 1));
            } else {
                draft.add(told);
            }
        }
    }

    private boolean tapeTellsFor(Tree tree) {
        for (int i = 0; i < tape.count; i++) {
            if (tape.at(i) != '$') {
                continue;
            }
            i++;
            int told = tape.at(i);
            if (told == NONE || isDigit(told) && told - '0' > tree.captures) {
                return false;
            }
        }
        return true;
    }

    private static boolean isTold(int bits, int slot) {
        return (bits >> slot & 1) == 1;
    }

    private boolean areThere(int bits) {
        for (int slot = 0; slot < SLOTS; slot++) {
            if (isTold(bits, slot) && patternIn(slot) == null) {
                return false;
            }
        }
        return true;
    }

    private int refusalOfSome(int bits, int machine) {
        boolean large = false;
        for (int slot = 0; slot < patterns.length; slot++) {
            if (!isTold(bits, slot)) {
                continue;
            }
            int refusal = refusalByMachine(patterns[slot], machine);
            if (refusal == KIND) {
                return KIND;
            }
            large |= refusal == LARGE;
        }
        return large ? LARGE : 0;
    }

    private int searchSlots(int bits, Row subject, int from, int machine) {
        int best = NONE;
        int bestPlace = subject.count + 1;
        for (int slot = 0; slot < patterns.length; slot++) {
            if (!isTold(bits, slot)) {
                continue;
            }
            int answer = search(patterns[slot], subject, from, machine, STEP_ROOM, false);
            if (answer == SPENT) {
                return SPENT;
            }
            if (answer == 1 && spans.at(0) < bestPlace) {
                best = slot;
                bestPlace = spans.at(0);
            }
        }
        return best;
    }

    /** Makes the tables of one or of two patterns; tells the refusal, 0 without. */
    private int makeTables(Tree tree, Tree other) {
        if (!tree.isTakenBy(TABLE) || other != null && !other.isTakenBy(TABLE)) {
            return KIND;
        }
        if (tree.isTooLargeFor(TABLE) || other != null && other.isTooLargeFor(TABLE)) {
            return LARGE;
        }
        return sets.make(tree, other) ? 0 : LARGE;
    }

    /** A row of numbers or signs that never grows beyond the room it was made with. */
    private static final class Row {
        private final int[] items;
        int count;
        boolean over;
        boolean there;

        Row(int room) {
            items = new int[Math.max(room, 0)];
        }

        int at(int i) {
            return i >= 0 && i < count && i < items.length ? items[i] : NONE;
        }

        void add(int item) {
            if (count >= 0 && count < items.length) {
                items[count] = item;
                count++;
            } else {
                over = true;
            }
        }

        void addFrom(Row other, int begin, int end) {
            for (int i = Math.max(begin, 0); i < end && i < other.count; i++) {
                add(other.at(i));
            }
        }

        void empty() {
            count = 0;
            over = false;
        }

        void take(Row other) {
            empty();
            addFrom(other, 0, other.count);
        }

        void turnRound() {
            for (int i = 0, j = count - 1; i < j && j < items.length; i++, j--) {
                int item = items[i];
                items[i] = items[j];
                items[j] = item;
            }
        }
    }

    /**
     * The nodes of a pattern, a node ahead of its parts. The rows value, low, high hold what its sort
     * needs: SIGN the sign; SET turned, first range, how many; EDGE, LOOK which; BACK the capture;
     * LOOP manner, least, most; CAPTURE number, name.
     */
    private static final class Tree {
        boolean there;
        int count;
        int captures;
        private int ranges;
        private final int[] sort;
        private final int[] holder;
        private final int[] end;
        private final int[] before;
        private final int[] last;
        private final int[] parts;
        private final int[] value;
        private final int[] low;
        private final int[] high;
        private final int[] size;
        private final int[] positions;
        private final boolean[] mayBeEmpty;
        private final boolean[] withinCase;
        private final boolean[] marked;
        private final int[] rangeBegin;
        private final int[] rangeEnd;

        Tree(int nodeRoom, int rangeRoom) {
            int nodes = Math.max(nodeRoom, 0);
            sort = new int[nodes];
            holder = new int[nodes];
            end = new int[nodes];
            before = new int[nodes];
            last = new int[nodes];
            parts = new int[nodes];
            value = new int[nodes];
            low = new int[nodes];
            high = new int[nodes];
            size = new int[nodes];
            positions = new int[nodes];
            mayBeEmpty = new boolean[nodes];
            withinCase = new boolean[nodes];
            marked = new boolean[nodes];
            rangeBegin = new int[Math.max(rangeRoom, 0)];
            rangeEnd = new int[Math.max(rangeRoom, 0)];
        }

        void reset() {
            there = false;
            count = 0;
            captures = 0;
            ranges = 0;
        }

        /** There are never more nodes than room for them: what is a node is an index. */
        boolean has(int k) {
            return k >= 0 && k < count;
        }

        int sortOf(int k) {
            return k >= 0 && k < count ? sort[k] : ROW;
        }

        int holderOf(int k) {
            return k >= 0 && k < count ? holder[k] : NONE;
        }

        int valueOf(int k) {
            return k >= 0 && k < count ? value[k] : 0;
        }

        int lowOf(int k) {
            return k >= 0 && k < count ? low[k] : 0;
        }

        int highOf(int k) {
            return k >= 0 && k < count ? high[k] : 0;
        }

        int lastOf(int k) {
            return k >= 0 && k < count ? last[k] : NONE;
        }

        int beforeOf(int k) {
            return k >= 0 && k < count ? before[k] : NONE;
        }

        int endOf(int k) {
            return k >= 0 && k < count ? end[k] : count;
        }

        /** The first part stands right behind its holder, the next one behind all of a part. */
        int firstOf(int k) {
            return k >= 0 && k < count && end[k] > k + 1 ? k + 1 : NONE;
        }

        int nextOf(int k) {
            int above = k >= 0 && k < count ? holder[k] : NONE;
            return above >= 0 && above < count && end[k] < end[above] ? end[k] : NONE;
        }

        int partsOf(int k) {
            if (k < 0 || k >= count) {
                return 0;
            }
            return sort[k] == SET ? high[k] : parts[k];
        }

        boolean isWithinCase(int k) {
            return k >= 0 && k < count && withinCase[k];
        }

        boolean isMarked(int k) {
            return k >= 0 && k < count && marked[k];
        }

        boolean isEndless(int k) {
            return sortOf(k) == LOOP && highOf(k) == NONE;
        }

        /** A new node behind all others and behind the parts that its holder has so far. */
        int add(int itsSort, int itsValue, int itsLow, int itsHigh, int itsHolder) {
            if (count >= sort.length) {
                return NONE;
            }
            int k = count;
            count++;
            sort[k] = itsSort;
            value[k] = itsValue;
            low[k] = itsLow;
            high[k] = itsHigh;
            holder[k] = itsHolder;
            parts[k] = 0;
            last[k] = NONE;
            before[k] = lastOf(itsHolder);
            if (has(itsHolder)) {
                last[itsHolder] = k;
                parts[itsHolder]++;
            }
            return k;
        }

        void close(int k) {
            if (has(k)) {
                end[k] = count;
            }
        }

        void addRange(int begin, int itsEnd) {
            if (ranges < rangeBegin.length && ranges < rangeEnd.length) {
                rangeBegin[ranges] = begin;
                rangeEnd[ranges] = itsEnd;
                ranges++;
            }
        }

        int rangeCount() {
            return ranges;
        }

        int partBegin(int k, int i) {
            int at = lowOf(k) + i;
            return at >= 0 && at < ranges ? rangeBegin[at] : 0;
        }

        int partEnd(int k, int i) {
            int at = lowOf(k) + i;
            return at >= 0 && at < ranges ? rangeEnd[at] : 0;
        }

        /** Works out what the nodes are by their parts, which stand behind them. */
        void measure() {
            for (int k = 0; has(k); k++) {
                withinCase[k] = isWithinCase(holder[k]) || has(holder[k]) && sort[holder[k]] == CASE;
            }
            for (int k = count - 1; has(k); k--) {
                measureNode(k);
            }
        }

        private void measureNode(int k) {
            if (!has(k)) {
                return;
            }
            int sizes = 0;
            int places = 0;
            boolean allMay = true;
            boolean oneMay = false;
            for (int part = firstOf(k); has(part); part = nextOf(part)) {
                sizes += size[part];
                places += positions[part];
                allMay &= mayBeEmpty[part];
                oneMay |= mayBeEmpty[part];
            }
            int times = copies(k);
            size[k] = Math.min(TOLD_ROOM, 1 + times * sizes);
            positions[k] = takesOneSign(k) ? 1 : Math.min(TOLD_ROOM, times * places);
            mayBeEmpty[k] = maybeEmpty(k, allMay, oneMay);
        }

        private boolean maybeEmpty(int k, boolean allMay, boolean oneMay) {
            switch (sortOf(k)) {
                case SIGN: case ANY: case SET:
                    return false;
                case EDGE: case BACK: case LOOK:
                    return true;
                case CHOICE:
                    return oneMay;
                case LOOP:
                    return lowOf(k) == 0 || oneMay;
                default:
                    return allMay;
            }
        }

        private int copies(int k) {
            if (sortOf(k) != LOOP) {
                return 1;
            }
            return Math.max(1, highOf(k) == NONE ? lowOf(k) + 1 : highOf(k));
        }

        private boolean takesOneSign(int k) {
            return sortOf(k) <= SET;
        }

        int tellOfAll(int k, int what) {
            if (!has(k)) {
                return OUTSIDE;
            }
            switch (what) {
                case 0:
                    return sort[k];
                case 1:
                    return partsOf(k);
                case 2:
                    return holder[k];
                case 3:
                    return size[k];
                case 4:
                    return positions[k];
                case 5:
                    return mayBeEmpty[k] ? 1 : 0;
                default:
                    return withinCase[k] ? 1 : 0;
            }
        }

        int captureNamed(int name) {
            for (int k = 0; has(k); k++) {
                if (sort[k] == CAPTURE && low[k] == name) {
                    return value[k];
                }
            }
            return NONE;
        }

        boolean isTakenBy(int machine) {
            for (int k = 0; machine != GOING_BACK && has(k); k++) {
                boolean taken = machine == PARALLEL ? isParallel(k) : isParallel(k) && sort[k] != EDGE;
                if (!taken) {
                    return false;
                }
            }
            return true;
        }

        private boolean isParallel(int k) {
            switch (sortOf(k)) {
                case BACK: case LOOK: case CUT:
                    return false;
                case LOOP:
                    int node = firstOf(k);
                    return valueOf(k) != CUTTING && !(highOf(k) > lowOf(k) && has(node) && mayBeEmpty[node]);
                default:
                    return true;
            }
        }

        boolean isTooLargeFor(int machine) {
            if (machine == GOING_BACK || count < 1) {
                return false;
            }
            return size[0] > SIZE_ROOM || machine == TABLE && positions[0] > POSITION_ROOM;
        }

        /** Whether a SIGN, ANY or SET takes a sign. */
        boolean takes(int k, int c) {
            switch (sortOf(k)) {
                case SIGN:
                    return c == valueOf(k) || isWithinCase(k) && otherCase(c) == valueOf(k);
                case ANY:
                    return c != 10;
                case SET:
                    boolean within = hasInParts(k, c) || isWithinCase(k) && hasInParts(k, otherCase(c));
                    return within == (valueOf(k) == 0);
                default:
                    return false;
            }
        }

        private boolean hasInParts(int k, int c) {
            if (k < 0 || k >= count) {
                return false;
            }
            for (int i = low[k]; i >= 0 && i < low[k] + high[k] && i < ranges; i++) {
                if (rangeBegin[i] <= c && c <= rangeEnd[i]) {
                    return true;
                }
            }
            return false;
        }

        /** Marks the nodes that have c as a beginning sign. */
        void markBeginning(int c) {
            for (int k = count - 1; has(k); k--) {
                marked[k] = beginsWith(k, c);
            }
        }

        private boolean beginsWith(int k, int c) {
            switch (sortOf(k)) {
                case SIGN: case ANY: case SET:
                    return takes(k, c);
                case BACK:
                    return true;
                case EDGE: case LOOK:
                    return false;
                case ROW:
                    return rowBegins(k);
                case LOOP:
                    return highOf(k) != 0 && isMarked(firstOf(k));
                default:
                    return somePartIsMarked(k);
            }
        }

        private boolean rowBegins(int k) {
            for (int part = firstOf(k); has(part); part = nextOf(part)) {
                if (marked[part] || !mayBeEmpty[part]) {
                    return marked[part];
                }
            }
            return false;
        }

        private boolean somePartIsMarked(int k) {
            for (int part = firstOf(k); has(part); part = nextOf(part)) {
                if (marked[part]) {
                    return true;
                }
            }
            return false;
        }

        /** All signs of a class begin the same nodes, so one of each is asked. */
        int firstRisky(Alphabet alphabet) {
            int risky = NONE;
            for (int i = 0; i < alphabet.count; i++) {
                markBeginning(alphabet.leastOf(i));
                for (int k = 0; has(k); k++) {
                    int outer = isEndless(k) && isMarked(firstOf(k)) ? outermostEndless(k) : NONE;
                    if (outer != NONE && (risky == NONE || outer < risky)) {
                        risky = outer;
                    }
                }
            }
            return risky;
        }

        private int outermostEndless(int k) {
            int outer = NONE;
            for (int above = holderOf(k); has(above); above = holder[above]) {
                if (isEndless(above) && isMarked(firstOf(above))) {
                    outer = above;
                }
            }
            return outer;
        }

        int deadRow(int wanted) {
            int seen = 0;
            for (int k = 0; has(k); k++) {
                if (sortOf(holder[k]) != CHOICE || holder[k] == NONE || !isSaidAhead(k)) {
                    continue;
                }
                if (seen == wanted) {
                    return k;
                }
                seen++;
            }
            return NONE;
        }

        private boolean isSaidAhead(int k) {
            for (int other = beforeOf(k); has(other); other = before[other]) {
                if (printAlike(k, other)) {
                    return true;
                }
            }
            return false;
        }

        /** Prints read back to the same nodes, so rows print alike just if their nodes are alike. */
        private boolean printAlike(int a, int b) {
            int nodes = endOf(a) - a;
            if (nodes != endOf(b) - b) {
                return false;
            }
            for (int i = 0; i < nodes; i++) {
                if (!nodeAlike(a + i, b + i)) {
                    return false;
                }
            }
            return true;
        }

        private boolean nodeAlike(int a, int b) {
            if (sortOf(a) != sortOf(b) || partsOf(a) != partsOf(b)) {
                return false;
            }
            switch (sortOf(a)) {
                case SET:
                    return valueOf(a) == valueOf(b) && sameParts(a, b);
                case LOOP:
                    return valueOf(a) == valueOf(b) && lowOf(a) == lowOf(b) && highOf(a) == highOf(b);
                case CAPTURE:
                    return lowOf(a) == lowOf(b);
                default:
                    return valueOf(a) == valueOf(b);
            }
        }

        private boolean sameParts(int a, int b) {
            for (int i = 0; i < partsOf(a); i++) {
                if (partBegin(a, i) != partBegin(b, i) || partEnd(a, i) != partEnd(b, i)) {
                    return false;
                }
            }
            return true;
        }
    }

    /** An open group of a text that is read: its rows so far, and the row that is being read. */
    private static final class Group {
        int sort;
        int value;
        int name;
        int pending;
        boolean loopable;
        int rowFirst;
        int rowLast;
        int rowCount;
        int choiceFirst;
        int choiceLast;
        int choiceCount;

        void begin(int itsSort, int itsValue, int itsName) {
            sort = itsSort;
            value = itsValue;
            name = itsName;
            choiceFirst = NONE;
            choiceLast = NONE;
            choiceCount = 0;
            beginRow();
        }

        void beginRow() {
            pending = NONE;
            loopable = false;
            rowFirst = NONE;
            rowLast = NONE;
            rowCount = 0;
        }
    }

    /**
     * Reads a text to a tree. What is read is chained up first, for a loop or a bar shows only later
     * what stands round a node, and then laid into the tree in the order of the numbers.
     */
    private static final class Reader {
        int fault;
        int faultPlace;
        private final int[] sort = new int[NODE_ROOM];
        private final int[] value = new int[NODE_ROOM];
        private final int[] low = new int[NODE_ROOM];
        private final int[] high = new int[NODE_ROOM];
        private final int[] firstPart = new int[NODE_ROOM];
        private final int[] nextPart = new int[NODE_ROOM];
        private int count;
        private final Group[] groups = new Group[GROUP_ROOM + 1];
        private int depth;
        private Row text = new Row(0);
        private Tree tree = new Tree(NODE_ROOM, RANGE_ROOM);
        private int at;
        private int items;
        private final int[] captureOfName = new int[26];
        private final int[] partBegin = new int[TAPE_ROOM];
        private final int[] partEnd = new int[TAPE_ROOM];
        private int partCount;

        Reader() {
            for (int i = 0; i < groups.length; i++) {
                groups[i] = new Group();
            }
        }

        /** Hands out the tree that was read and takes another one to read the next text to. */
        Tree exchange(Tree other) {
            Tree wasRead = tree;
            tree = other;
            return wasRead;
        }

        boolean read(Row itsText) {
            begin(itsText);
            for (int i = 0; i <= TAPE_ROOM && at < text.count && fault == 0; i++) {
                readNext(here());
            }
            if (depth > 0) {
                blame(CANNOT_STAND, at);
            }
            if (fault != 0) {
                return false;
            }
            closeRow(openGroup());
            lay(choiceOf(openGroup()), NONE, 0);
            tree.measure();
            return true;
        }

        private void begin(Row itsText) {
            text = itsText;
            tree.reset();
            fault = 0;
            faultPlace = NONE;
            count = 0;
            depth = 0;
            at = 0;
            items = 0;
            Arrays.fill(captureOfName, 0);
            openGroup().begin(NONE, 0, 0);
        }

        /** The first fault that is told stays: no later one stands ahead of it. */
        private void blame(int kind, int where) {
            if (fault == 0) {
                fault = kind;
                faultPlace = where;
            }
        }

        private int here() {
            return text.at(at);
        }

        private Group openGroup() {
            return groups[depth >= 0 && depth < groups.length ? depth : 0];
        }

        private void readNext(int c) {
            switch (c) {
                case '|':
                    closeRow(openGroup());
                    at++;
                    break;
                case '(':
                    readGroup();
                    break;
                case ')':
                    closeGroup();
                    break;
                case '[':
                    readSet();
                    break;
                case '\\':
                    readEscape();
                    break;
                case '*': case '+': case '?': case '{':
                    readLoop(c);
                    break;
                case '.':
                    readLeaf(ANY, 0);
                    break;
                case '^':
                    readLeaf(EDGE, 0);
                    break;
                case '$':
                    readLeaf(EDGE, 1);
                    break;
                case ']': case '}':
                    blame(CANNOT_STAND, at);
                    break;
                default:
                    readLeaf(SIGN, c);
                    break;
            }
        }

        private void readLeaf(int itsSort, int itsValue) {
            if (countItem()) {
                addLeaf(itsSort, itsValue);
            }
        }

        /** The leaf whose last sign is here. */
        private void addLeaf(int itsSort, int itsValue) {
            addOne(make(itsSort, itsValue, 0, 0));
            at++;
        }

        private boolean countItem() {
            items++;
            if (items > ITEM_ROOM) {
                blame(TOO_MANY, at);
            }
            return fault == 0;
        }

        private int make(int itsSort, int itsValue, int itsLow, int itsHigh) {
            if (count >= NODE_ROOM) {
                blame(TOO_MANY, at);
                return 0;
            }
            int made = count;
            count++;
            sort[made] = itsSort;
            value[made] = itsValue;
            low[made] = itsLow;
            high[made] = itsHigh;
            firstPart[made] = NONE;
            nextPart[made] = NONE;
            return made;
        }

        private int makeRound(int itsSort, int itsValue, int itsLow, int itsHigh, int inner) {
            int made = make(itsSort, itsValue, itsLow, itsHigh);
            firstPart[made] = inner;
            return made;
        }

        /** A one waits ahead of its row, for a loop may still come round it. */
        private void addOne(int made) {
            Group group = openGroup();
            addPending(group);
            group.pending = made;
            group.loopable = true;
        }

        private void addPending(Group group) {
            if (group.pending == NONE) {
                return;
            }
            if (group.rowLast >= 0 && group.rowLast < NODE_ROOM) {
                nextPart[group.rowLast] = group.pending;
            } else {
                group.rowFirst = group.pending;
            }
            group.rowLast = group.pending;
            group.rowCount++;
            group.pending = NONE;
        }

        private void closeRow(Group group) {
            addPending(group);
            int row = group.rowCount == 1 ? group.rowFirst : makeRound(ROW, 0, 0, 0, group.rowFirst);
            if (group.choiceLast >= 0 && group.choiceLast < NODE_ROOM) {
                nextPart[group.choiceLast] = row;
            } else {
                group.choiceFirst = row;
            }
            group.choiceLast = row;
            group.choiceCount++;
            group.beginRow();
        }

        private int choiceOf(Group group) {
            return group.choiceCount == 1 ? group.choiceFirst : makeRound(CHOICE, 0, 0, 0, group.choiceFirst);
        }

        private void closeGroup() {
            if (depth == 0) {
                blame(CANNOT_STAND, at);
                return;
            }
            Group group = openGroup();
            closeRow(group);
            int made = choiceOf(group);
            if (group.sort != NONE) {
                made = makeRound(group.sort, group.value, group.name, 0, made);
            }
            depth--;
            addOne(made);
            at++;
        }

        private void readGroup() {
            int mark = text.at(at + 1);
            if (mark == '#') {
                skipComment();
                return;
            }
            int itsSort = sortOfMark(mark);
            boolean captures = itsSort == CAPTURE;
            if (depth >= GROUP_ROOM || captures && tree.captures >= CAPTURE_ROOM) {
                blame(TOO_MANY, at);
            }
            if (!countItem()) {
                return;
            }
            at += captures && mark != '@' ? 1 : 2;
            tree.captures += captures ? 1 : 0;
            int name = mark == '@' ? readName() : 0;
            if (fault == 0) {
                depth++;
                openGroup().begin(itsSort, captures ? tree.captures : lookOfMark(mark), name);
            }
        }

        private static int sortOfMark(int mark) {
            switch (mark) {
                case ':':
                    return NONE;
                case '=': case '!': case '<': case '~':
                    return LOOK;
                case '*':
                    return CUT;
                case '%':
                    return CASE;
                default:
                    return CAPTURE;
            }
        }

        private static int lookOfMark(int mark) {
            switch (mark) {
                case '!':
                    return NOT_AHEAD;
                case '<':
                    return LOOK_BEHIND;
                case '~':
                    return NOT_BEHIND;
                default:
                    return LOOK_AHEAD;
            }
        }

        private int readName() {
            int name = here();
            if (!isSmall(name)) {
                blame(CANNOT_STAND, at);
                return 0;
            }
            if (captureOfName[name - 'a'] != 0) {
                blame(WRONG_VALUE, at);
            }
            captureOfName[name - 'a'] = tree.captures;
            at++;
            return name;
        }

        private void skipComment() {
            int end = at + 2;
            while (end < text.count && text.at(end) != ')') {
                end++;
            }
            at = end;
            if (end >= text.count) {
                blame(CANNOT_STAND, at);
                return;
            }
            at++;
            openGroup().loopable = false;
        }

        private void readLoop(int c) {
            Group group = openGroup();
            if (!group.loopable) {
                blame(CANNOT_STAND, at);
            }
            if (!countItem()) {
                return;
            }
            at++;
            int least = c == '+' ? 1 : 0;
            int most = c == '?' ? 1 : NONE;
            if (c == '{') {
                least = readNumber(0);
                most = readMost(least);
            }
            if (fault != 0) {
                return;
            }
            int manner = here() == '?' ? SPARE : here() == '+' ? CUTTING : 0;
            at += manner != 0 ? 1 : 0;
            group.pending = makeRound(LOOP, manner, least, most, group.pending);
            group.loopable = false;
        }

        private int readNumber(int atLeast) {
            int begin = at;
            if (!isDigit(here())) {
                blame(CANNOT_STAND, at);
                return 0;
            }
            int number = here() - '0';
            at++;
            if (isDigit(here())) {
                number = number * 10 + here() - '0';
                at++;
            }
            if (number > COUNT_ROOM || number < atLeast) {
                blame(WRONG_VALUE, begin);
            }
            return number;
        }

        private int readMost(int least) {
            int most = least;
            if (fault == 0 && here() == ',') {
                at++;
                most = here() == '}' ? NONE : readNumber(least);
            }
            if (here() != '}') {
                blame(CANNOT_STAND, at);
            }
            at++;
            return most;
        }

        private void readEscape() {
            if (!countItem()) {
                return;
            }
            at++;
            int c = here();
            switch (c) {
                case 'b':
                    addLeaf(EDGE, 2);
                    break;
                case 'B':
                    addLeaf(EDGE, 3);
                    break;
                case 'd':
                    readDigits();
                    break;
                case 'w':
                    readWordSigns();
                    break;
                case 'x':
                    readCode();
                    break;
                case '@':
                    readBackByName();
                    break;
                default:
                    readOtherEscape(c);
                    break;
            }
        }

        private void readDigits() {
            partCount = 0;
            addPart('0', '9');
            addOne(makeSet(false));
            at++;
        }

        private void readWordSigns() {
            partCount = 0;
            addPart('0', '9');
            addPart('A', 'Z');
            addPart('_', '_');
            addPart('a', 'z');
            addOne(makeSet(false));
            at++;
        }

        private void readCode() {
            at++;
            int code = readHex();
            if (fault == 0) {
                addOne(make(SIGN, code, 0, 0));
            }
        }

        private void readBackByName() {
            at++;
            int name = here();
            if (!isSmall(name)) {
                blame(CANNOT_STAND, at);
            } else if (captureOfName[name - 'a'] == 0) {
                blame(WRONG_VALUE, at);
            } else {
                addLeaf(BACK, captureOfName[name - 'a']);
            }
        }

        private void readOtherEscape(int c) {
            if (isDigit(c) && c != '0') {
                if (c - '0' > tree.captures) {
                    blame(WRONG_VALUE, at);
                } else {
                    addLeaf(BACK, c - '0');
                }
            } else if (isTapeSign(c) && !isLetter(c) && !isDigit(c)) {
                addLeaf(SIGN, c);
            } else {
                blame(CANNOT_STAND, at);
            }
        }

        private int readHex() {
            int code = 0;
            for (int i = 0; i < 4; i++) {
                int c = text.at(at);
                if (isDigit(c)) {
                    code = code * 16 + c - '0';
                } else if (c >= 'a' && c <= 'f') {
                    code = code * 16 + c - 'a' + 10;
                } else {
                    blame(CANNOT_STAND, at);
                    return 0;
                }
                at++;
            }
            return code;
        }

        private void readSet() {
            if (!countItem()) {
                return;
            }
            at++;
            boolean turned = here() == '^';
            at += turned ? 1 : 0;
            partCount = 0;
            readPart();
            for (int i = 0; i < TAPE_ROOM && fault == 0 && here() != ']'; i++) {
                readPart();
            }
            if (fault == 0) {
                addOne(makeSet(turned));
                at++;
            }
        }

        private void readPart() {
            int begin = readMember();
            int end = begin;
            if (fault == 0 && here() == '-') {
                at++;
                int where = at;
                end = readMember();
                if (end < begin) {
                    blame(WRONG_VALUE, where);
                }
            }
            addPart(begin, end);
        }

        private int readMember() {
            int c = here();
            if (c == '\\') {
                at++;
                c = here();
                if (c == 'x') {
                    at++;
                    return readHex();
                }
                if (!isTapeSign(c) || isLetter(c) || isDigit(c)) {
                    blame(CANNOT_STAND, at);
                }
            } else if (!isTapeSign(c) || c == '[' || c == ']' || c == '^' || c == '-') {
                blame(CANNOT_STAND, at);
            }
            at++;
            return c;
        }

        private void addPart(int begin, int end) {
            if (partCount >= TAPE_ROOM) {
                return;
            }
            int i = partCount;
            while (i > 0 && partBegin[i - 1] > begin) {
                partBegin[i] = partBegin[i - 1];
                partEnd[i] = partEnd[i - 1];
                i--;
            }
            partBegin[i] = begin;
            partEnd[i] = end;
            partCount++;
        }

        private int makeSet(boolean turned) {
            int start = tree.rangeCount();
            int begin = partBegin[0];
            int end = partEnd[0];
            for (int i = 1; i < partCount && i < TAPE_ROOM; i++) {
                if (partBegin[i] > end + 1) {
                    tree.addRange(begin, end);
                    begin = partBegin[i];
                    end = partEnd[i];
                } else {
                    end = Math.max(end, partEnd[i]);
                }
            }
            tree.addRange(begin, end);
            return make(SET, turned ? 1 : 0, start, tree.rangeCount() - start);
        }

        private void lay(int made, int holder, int level) {
            if (made < 0 || made >= count || level > DEPTH_ROOM) {
                return;
            }
            int k = tree.add(sort[made], value[made], low[made], high[made], holder);
            for (int part = firstPart[made]; part >= 0 && part < count; part = nextPart[part]) {
                lay(part, k, level + 1);
            }
            tree.close(k);
        }
    }

    /** Prints trees. */
    private static final class Printer {
        private Row row = new Row(0);
        private int behindOpening;

        void write(Tree tree, Row itsRow) {
            row = itsRow;
            row.empty();
            behindOpening = NONE;
            writeNode(tree, 0, 0);
        }

        private void writeNode(Tree tree, int k, int level) {
            if (level > DEPTH_ROOM) {
                return;
            }
            boolean grouped = isGrouped(tree.sortOf(k), tree.sortOf(tree.holderOf(k)), tree.holderOf(k));
            if (grouped) {
                row.add('(');
                row.add(':');
            }
            if (tree.sortOf(k) <= BACK) {
                writeLeaf(tree, k);
            } else {
                writeOpening(tree, k);
                for (int part = tree.firstOf(k); part != NONE; part = tree.nextOf(part)) {
                    writeNode(tree, part, level + 1);
                    if (tree.sortOf(k) == CHOICE && tree.nextOf(part) != NONE) {
                        row.add('|');
                    }
                }
                writeClosing(tree, k);
            }
            if (grouped) {
                row.add(')');
            }
        }

        private static boolean isGrouped(int sort, int above, int holder) {
            if (holder == NONE) {
                return false;
            }
            switch (sort) {
                case ROW:
                    return above == ROW || above == LOOP;
                case CHOICE:
                    return above == ROW || above == LOOP || above == CHOICE;
                case LOOP:
                    return above == LOOP;
                default:
                    return false;
            }
        }

        private void writeLeaf(Tree tree, int k) {
            int value = tree.valueOf(k);
            switch (tree.sortOf(k)) {
                case SIGN:
                    writeSign(value);
                    break;
                case ANY:
                    row.add('.');
                    break;
                case SET:
                    writeSet(tree, k);
                    break;
                case EDGE:
                    writeEdge(value);
                    break;
                default:
                    row.add('\\');
                    row.add('0' + value);
                    break;
            }
        }

        private void writeSign(int c) {
            if (!isTapeSign(c) || row.count == behindOpening && isMark(c)) {
                writeCode(c);
                return;
            }
            if (!isPlain(c)) {
                row.add('\\');
            }
            row.add(c);
        }

        /** What would be read as a mark of the group. */
        private static boolean isMark(int c) {
            switch (c) {
                case ':': case '=': case '!': case '<': case '~': case '%': case '@': case '#':
                    return true;
                default:
                    return false;
            }
        }

        private void writeCode(int c) {
            row.add('\\');
            row.add('x');
            for (int shift = 12; shift >= 0; shift -= 4) {
                int hex = c >> shift & 15;
                row.add(hex < 10 ? '0' + hex : 'a' + hex - 10);
            }
        }

        private void writeEdge(int which) {
            if (which < 2) {
                row.add(which == 0 ? '^' : '$');
            } else {
                row.add('\\');
                row.add(which == 2 ? 'b' : 'B');
            }
        }

        private void writeSet(Tree tree, int k) {
            row.add('[');
            if (tree.valueOf(k) != 0) {
                row.add('^');
            }
            for (int i = 0; i < tree.partsOf(k); i++) {
                writeMember(tree.partBegin(k, i));
                if (tree.partEnd(k, i) != tree.partBegin(k, i)) {
                    row.add('-');
                    writeMember(tree.partEnd(k, i));
                }
            }
            row.add(']');
        }

        private void writeMember(int c) {
            if (!isTapeSign(c)) {
                writeCode(c);
                return;
            }
            if (c == '[' || c == ']' || c == '^' || c == '-' || c == '\\') {
                row.add('\\');
            }
            row.add(c);
        }

        private void writeOpening(Tree tree, int k) {
            switch (tree.sortOf(k)) {
                case CAPTURE:
                    row.add('(');
                    if (tree.lowOf(k) != 0) {
                        row.add('@');
                        row.add(tree.lowOf(k));
                    } else {
                        behindOpening = row.count;
                    }
                    break;
                case LOOK:
                    row.add('(');
                    row.add(markOfLook(tree.valueOf(k)));
                    break;
                case CUT:
                    row.add('(');
                    row.add('*');
                    break;
                case CASE:
                    row.add('(');
                    row.add('%');
                    break;
                default:
                    break;
            }
        }

        private static int markOfLook(int which) {
            switch (which) {
                case LOOK_AHEAD:
                    return '=';
                case NOT_AHEAD:
                    return '!';
                case LOOK_BEHIND:
                    return '<';
                default:
                    return '~';
            }
        }

        private void writeClosing(Tree tree, int k) {
            if (tree.sortOf(k) == LOOP) {
                writeLoop(tree.lowOf(k), tree.highOf(k));
                if (tree.valueOf(k) != 0) {
                    row.add(tree.valueOf(k) == SPARE ? '?' : '+');
                }
            } else if (tree.sortOf(k) >= CAPTURE) {
                row.add(')');
            }
        }

        private void writeLoop(int least, int most) {
            if (most == NONE && least <= 1) {
                row.add(least == 0 ? '*' : '+');
                return;
            }
            if (least == 0 && most == 1) {
                row.add('?');
                return;
            }
            row.add('{');
            writeNumber(least);
            if (most != least) {
                row.add(',');
            }
            if (most != least && most != NONE) {
                writeNumber(most);
            }
            row.add('}');
        }

        private void writeNumber(int number) {
            if (number >= 10) {
                row.add('0' + number / 10);
            }
            row.add('0' + number % 10);
        }
    }

    /**
     * Machine 0: goes through the ways one by one. It is a machine of single moves and not of calls,
     * so that it can stand still ahead of any step and go on later.
     */
    private static final class GoingBack {
        private static final int ENTER = 0, LEAVE = 1, FAIL = 2, COME = 3, TURN = 4, TRY = 5;
        private static final int RUNNING = 0, HAS_FOUND = 1, HAS_NOT = 2, STANDING = 3;
        private static final int NEXT_ROW = 0, LOOP_ENDS = 1, LOOP_TURNS = 2, LOOK_AGAIN = 3;
        private static final int CAPTURE_CELLS = NODE_ROOM, PLACES = 128, CELL = 1 << 16, KINDS = 4;
        // 3000 steps keep some 50 choices each at most, and some 70 values of cells.
        private static final int FIRST_KEEP = 1024, KEEP_ROOM = 1 << 18;
        // Between two steps no more moves are made than a few for each node and each row of a choice.
        private static final int MOVE_ROOM = 1 << 30;

        int steps;
        private Tree tree = new Tree(0, 0);
        private Row subject = new Row(0);
        private boolean wholeOnly;
        private int start;
        private int mode;
        private int node;
        private int place;
        private int limit;
        private int verdict;
        // Of a LOOP its turns and where the latest began, of a CAPTURE where it began; then the captures.
        private final int[] cells = new int[NODE_ROOM + CAPTURE_ROOM + 1];
        private final int[] base = new int[NODE_ROOM];
        private final int[] entry = new int[NODE_ROOM];
        private final int[] from = new int[NODE_ROOM];
        private int[] choices = new int[FIRST_KEEP];
        private int[] heights = new int[FIRST_KEEP];
        private int choiceCount;
        private int[] trail = new int[FIRST_KEEP];
        private int trailCount;

        void begin(Tree itsTree, Row itsSubject, int itsFrom, boolean toTheEnd) {
            tree = itsTree;
            subject = itsSubject;
            wholeOnly = toTheEnd;
            steps = 0;
            startAt(itsFrom);
        }

        private void startAt(int where) {
            start = where;
            place = where;
            node = 0;
            mode = ENTER;
            choiceCount = 0;
            trailCount = 0;
            Arrays.fill(cells, 0);
        }

        /** Goes on for so many steps: 1, with the spans of what was found, 0, MORE or SPENT. */
        int proceed(int more, Row spans) {
            limit = Math.min(STEP_ROOM, steps + more);
            verdict = RUNNING;
            for (int i = 0; i < MOVE_ROOM && verdict == RUNNING; i++) {
                switch (mode) {
                    case ENTER:
                        enter();
                        break;
                    case LEAVE:
                        leave();
                        break;
                    case COME:
                        comeToLoop();
                        break;
                    case TURN:
                        turn();
                        break;
                    case TRY:
                        tryFrom();
                        break;
                    default:
                        goBack();
                        break;
                }
            }
            if (verdict == STANDING) {
                return steps >= STEP_ROOM ? SPENT : MORE;
            }
            if (verdict != HAS_FOUND) {
                return 0;
            }
            tell(spans);
            return 1;
        }

        private void tell(Row spans) {
            spans.empty();
            spans.add(start);
            spans.add(place);
            for (int capture = 1; capture <= tree.captures; capture++) {
                spans.add(captureBegin(capture));
                spans.add(captureEnd(capture));
            }
        }

        private boolean step() {
            if (steps >= limit) {
                verdict = STANDING;
                return false;
            }
            steps++;
            return true;
        }

        private void enter() {
            switch (tree.sortOf(node)) {
                case SIGN: case ANY: case SET:
                    if (step()) {
                        askSign();
                    }
                    break;
                case EDGE:
                    if (step()) {
                        askEdge();
                    }
                    break;
                case BACK:
                    if (step()) {
                        askBack();
                    }
                    break;
                case CHOICE:
                    if (step()) {
                        enterRow(tree.firstOf(node));
                    }
                    break;
                case LOOP:
                    enterLoop();
                    break;
                case LOOK: case CUT:
                    if (step()) {
                        enterCut();
                    }
                    break;
                case CAPTURE:
                    setCell(node, place);
                    enterPart();
                    break;
                default:
                    enterPart();
                    break;
            }
        }

        private void enterPart() {
            int part = tree.firstOf(node);
            if (part == NONE) {
                mode = LEAVE;
            } else {
                node = part;
                mode = ENTER;
            }
        }

        private void askSign() {
            boolean taken = place < subject.count && tree.takes(node, subject.at(place));
            place += taken ? 1 : 0;
            mode = taken ? LEAVE : FAIL;
        }

        private void askEdge() {
            mode = edgeHolds(tree.valueOf(node), subject, place) ? LEAVE : FAIL;
        }

        private void askBack() {
            int capture = tree.valueOf(node);
            int begin = captureBegin(capture);
            int length = captureEnd(capture) - begin;
            mode = begin == NONE || place + length > subject.count ? FAIL : LEAVE;
            for (int i = 0; i < length && mode == LEAVE; i++) {
                int c = subject.at(place + i);
                int due = subject.at(begin + i);
                if (c != due && !(tree.isWithinCase(node) && otherCase(c) == due)) {
                    mode = FAIL;
                }
            }
            place += mode == LEAVE ? length : 0;
        }

        private void enterRow(int row) {
            int next = tree.nextOf(row);
            if (next != NONE) {
                keepChoice(NEXT_ROW, next);
            }
            node = row;
            mode = ENTER;
        }

        private void enterLoop() {
            if (tree.valueOf(node) == CUTTING) {
                if (!step()) {
                    return;
                }
                markBase();
            }
            setCell(node, 0);
            mode = COME;
        }

        private void comeToLoop() {
            int turns = cell(node) / PLACES;
            boolean mayTurn = tree.highOf(node) == NONE || turns < tree.highOf(node);
            if (turns < tree.lowOf(node)) {
                mode = TURN;
            } else if (!mayTurn) {
                endLoop();
            } else if (tree.valueOf(node) == SPARE) {
                keepChoice(LOOP_TURNS, node);
                endLoop();
            } else {
                keepChoice(LOOP_ENDS, node);
                mode = TURN;
            }
        }

        private void turn() {
            if (step()) {
                int turns = cell(node) / PLACES + 1;
                setCell(node, turns * PLACES + place);
                enterPart();
            }
        }

        private void endTurn() {
            int turns = cell(node) / PLACES;
            int began = cell(node) % PLACES;
            mode = turns > tree.lowOf(node) && place == began ? FAIL : COME;
        }

        private void endLoop() {
            if (tree.valueOf(node) == CUTTING) {
                cutToBase();
            }
            mode = LEAVE;
        }

        private void markBase() {
            if (node >= 0 && node < NODE_ROOM) {
                base[node] = choiceCount;
                entry[node] = place;
                from[node] = place;
            }
        }

        private void cutToBase() {
            if (node >= 0 && node < NODE_ROOM) {
                choiceCount = Math.min(choiceCount, base[node]);
            }
        }

        private int entryOf(int k) {
            return k >= 0 && k < NODE_ROOM ? entry[k] : 0;
        }

        private boolean looksBehind() {
            return tree.sortOf(node) == LOOK && tree.valueOf(node) >= LOOK_BEHIND;
        }

        private void enterCut() {
            markBase();
            if (looksBehind()) {
                mode = TRY;
                return;
            }
            if (tree.sortOf(node) == LOOK && tree.valueOf(node) == NOT_AHEAD) {
                keepChoice(LOOK_AGAIN, node);
            }
            enterPart();
        }

        private void tryFrom() {
            if (step()) {
                keepChoice(LOOK_AGAIN, node);
                place = node >= 0 && node < NODE_ROOM ? from[node] : 0;
                enterPart();
            }
        }

        /** All ways of what a look holds, from where it tried, are through. */
        private void lookAgain() {
            if (looksBehind() && node >= 0 && node < NODE_ROOM && from[node] > 0) {
                from[node]--;
                mode = TRY;
            } else if (tree.valueOf(node) == LOOK_BEHIND) {
                mode = FAIL;
            } else {
                place = entryOf(node);
                mode = LEAVE;
            }
        }

        private void leave() {
            int part = node;
            int holder = tree.holderOf(part);
            if (holder == NONE) {
                finish();
                return;
            }
            node = holder;
            switch (tree.sortOf(holder)) {
                case ROW:
                    leavePartOfRow(part);
                    break;
                case LOOP:
                    endTurn();
                    break;
                case CAPTURE:
                    setCell(CAPTURE_CELLS + tree.valueOf(holder), cell(holder) * PLACES + place + 1);
                    break;
                case LOOK:
                    leaveLook();
                    break;
                case CUT:
                    cutToBase();
                    break;
                default:
                    break;
            }
        }

        private void leavePartOfRow(int part) {
            int next = tree.nextOf(part);
            if (next != NONE) {
                node = next;
                mode = ENTER;
            }
        }

        private void leaveLook() {
            int which = tree.valueOf(node);
            if (looksBehind() && place != entryOf(node)) {
                mode = FAIL;
                return;
            }
            cutToBase();
            place = entryOf(node);
            mode = which == LOOK_AHEAD || which == LOOK_BEHIND ? LEAVE : FAIL;
        }

        private void finish() {
            if (wholeOnly && place != subject.count) {
                mode = FAIL;
            } else {
                verdict = HAS_FOUND;
            }
        }

        private void goBack() {
            if (choiceCount > choices.length || choiceCount > heights.length || choiceCount < 1) {
                startFurther();
                return;
            }
            choiceCount--;
            int choice = choices[choiceCount];
            undo(heights[choiceCount]);
            place = choice % PLACES;
            node = choice / PLACES / KINDS;
            switch (choice / PLACES % KINDS) {
                case NEXT_ROW:
                    enterRow(node);
                    break;
                case LOOP_ENDS:
                    endLoop();
                    break;
                case LOOP_TURNS:
                    mode = TURN;
                    break;
                default:
                    lookAgain();
                    break;
            }
        }

        private void startFurther() {
            if (wholeOnly || start >= subject.count) {
                verdict = HAS_NOT;
            } else {
                startAt(start + 1);
            }
        }

        private void keepChoice(int kind, int k) {
            if (choiceCount >= choices.length && choices.length < KEEP_ROOM) {
                choices = Arrays.copyOf(choices, choices.length * 2);
                heights = Arrays.copyOf(heights, choices.length);
            }
            if (choiceCount >= 0 && choiceCount < choices.length && choiceCount < heights.length) {
                choices[choiceCount] = (k * KINDS + kind) * PLACES + place;
                heights[choiceCount] = trailCount;
                choiceCount++;
            }
        }

        private int cell(int i) {
            return i >= 0 && i < cells.length ? cells[i] : 0;
        }

        private void setCell(int i, int value) {
            if (i < 0 || i >= cells.length) {
                return;
            }
            if (trailCount >= trail.length && trail.length < KEEP_ROOM) {
                trail = Arrays.copyOf(trail, trail.length * 2);
            }
            if (trailCount >= 0 && trailCount < trail.length) {
                trail[trailCount] = i * CELL + cells[i];
                trailCount++;
            }
            cells[i] = value;
        }

        private void undo(int height) {
            while (trailCount > height && trailCount > 0 && trailCount <= trail.length) {
                trailCount--;
                int i = trail[trailCount] / CELL;
                if (i >= 0 && i < cells.length) {
                    cells[i] = trail[trailCount] % CELL;
                }
            }
        }

        private int captureBegin(int capture) {
            int kept = cell(CAPTURE_CELLS + capture);
            return kept == 0 ? NONE : (kept - 1) / PLACES;
        }

        private int captureEnd(int capture) {
            int kept = cell(CAPTURE_CELLS + capture);
            return kept == 0 ? NONE : (kept - 1) % PLACES;
        }
    }

    /** A tree with each copy of a loop's node apart, as instructions that each know the next one. */
    private static final class Program {
        static final int TAKE = 0, ASK = 1, OPEN = 2, CLOSE = 3, SPLIT = 4, AGAIN = 5, END = 6;

        int start;
        int count;
        private Tree tree = new Tree(0, 0);
        private final int[] kinds = new int[PROGRAM_ROOM];
        private final int[] subjects = new int[PROGRAM_ROOM];
        private final int[] nexts = new int[PROGRAM_ROOM];
        private final int[] others = new int[PROGRAM_ROOM];

        void write(Tree itsTree) {
            tree = itsTree;
            count = 0;
            start = build(0, add(END, NONE, NONE, NONE), 0, 0);
        }

        boolean has(int pc) {
            return pc >= 0 && pc < count;
        }

        int kindOf(int pc) {
            return pc >= 0 && pc < count ? kinds[pc] : END;
        }

        /** The node of a TAKE, which edge of an ASK, the capture of OPEN and CLOSE. */
        int subjectOf(int pc) {
            return pc >= 0 && pc < count ? subjects[pc] : NONE;
        }

        int nextOf(int pc) {
            return pc >= 0 && pc < count ? nexts[pc] : NONE;
        }

        /**
         * Where else a SPLIT goes; within how many endless loops a TAKE stands; the how manieth of them
         * an AGAIN ends a turn of.
         */
        int otherOf(int pc) {
            return pc >= 0 && pc < count ? others[pc] : NONE;
        }

        boolean takes(int pc, int c) {
            return tree.takes(subjectOf(pc), c);
        }

        private int add(int kind, int itsSubject, int next, int other) {
            if (count >= PROGRAM_ROOM) {
                return next;
            }
            int pc = count;
            count++;
            kinds[pc] = kind;
            subjects[pc] = itsSubject;
            nexts[pc] = next;
            others[pc] = other;
            return pc;
        }

        /** Writes a node ahead of what comes next: where it begins. */
        private int build(int k, int next, int loops, int level) {
            if (level > DEPTH_ROOM) {
                return next;
            }
            switch (tree.sortOf(k)) {
                case SIGN: case ANY: case SET:
                    return add(TAKE, k, next, loops);
                case EDGE:
                    return add(ASK, tree.valueOf(k), next, NONE);
                case ROW:
                    return buildRow(k, next, loops, level);
                case CHOICE:
                    return buildChoice(k, next, loops, level);
                case LOOP:
                    return buildLoop(k, next, loops, level);
                case CAPTURE:
                    int close = add(CLOSE, tree.valueOf(k), next, NONE);
                    return add(OPEN, tree.valueOf(k), build(tree.firstOf(k), close, loops, level + 1), NONE);
                default:
                    return build(tree.firstOf(k), next, loops, level + 1);
            }
        }

        private int buildRow(int k, int next, int loops, int level) {
            int begin = next;
            for (int part = tree.lastOf(k); part != NONE; part = tree.beforeOf(part)) {
                begin = build(part, begin, loops, level + 1);
            }
            return begin;
        }

        private int buildChoice(int k, int next, int loops, int level) {
            int last = tree.lastOf(k);
            int begin = build(last, next, loops, level + 1);
            for (int part = tree.beforeOf(last); part != NONE; part = tree.beforeOf(part)) {
                begin = add(SPLIT, NONE, build(part, next, loops, level + 1), begin);
            }
            return begin;
        }

        private int buildLoop(int k, int next, int loops, int level) {
            int part = tree.firstOf(k);
            boolean spare = tree.valueOf(k) == SPARE;
            int begin = next;
            if (tree.isEndless(k)) {
                begin = add(SPLIT, NONE, NONE, NONE);
                int again = add(AGAIN, NONE, begin, loops + 1);
                aim(begin, build(part, again, loops + 1, level + 1), next, spare);
            }
            for (int i = tree.highOf(k); i > tree.lowOf(k); i--) {
                int turn = build(part, begin, loops, level + 1);
                begin = add(SPLIT, NONE, NONE, NONE);
                aim(begin, turn, next, spare);
            }
            for (int i = 0; i < tree.lowOf(k); i++) {
                begin = build(part, begin, loops, level + 1);
            }
            return begin;
        }

        private void aim(int split, int turn, int end, boolean spare) {
            if (split >= 0 && split < count) {
                nexts[split] = spare ? end : turn;
                others[split] = spare ? turn : end;
            }
        }
    }

    /**
     * Machine 1: all ways go along at once, the earlier ahead of the later. Of two that come to the same
     * instruction at one place the later is dropped, for whatever it could find, the earlier finds too,
     * if it has moved in as many of the loops round it: a turn that has not moved may not end. A way that
     * has moved in a loop has moved in those round that loop, so how many tells which.
     */
    private static final class Parallel {
        private static final int WIDTH = 2 * CAPTURE_ROOM + 2;
        // 9 groups within one another hold 10 loops, of which a way may have moved in 0 to 10.
        private static final int MOVED_ROOM = 11, SEEN_ROOM = PROGRAM_ROOM * MOVED_ROOM, STACK_ROOM = 2 * SEEN_ROOM + 2;
        // Only instructions that take a sign wait, and the end: 201 at most.
        private static final int THREAD_ROOM = 256;

        private final Program program = new Program();
        private Row subject = new Row(0);
        private int width;
        private final boolean[] edges = new boolean[4];
        private int[] nowAt = new int[THREAD_ROOM];
        private int[] nowCells = new int[THREAD_ROOM * WIDTH];
        private int nowCount;
        private int[] nextAt = new int[THREAD_ROOM];
        private int[] nextCells = new int[THREAD_ROOM * WIDTH];
        private int nextCount;
        private final int[] seen = new int[SEEN_ROOM];
        private final int[] waits = new int[PROGRAM_ROOM];
        private int stamp;
        private final int[] cells = new int[WIDTH];
        private final int[] stack = new int[STACK_ROOM];
        private final int[] kept = new int[STACK_ROOM];
        private int stackCount;

        boolean run(Tree tree, Row itsSubject, int from, boolean wholeOnly, Row spans) {
            program.write(tree);
            subject = itsSubject;
            width = Math.min(WIDTH, 2 * tree.captures + 2);
            nextCount = 0;
            stamp++;
            boolean hasFound = false;
            for (int place = from; place <= subject.count; place++) {
                if (!hasFound && (place == from || !wholeOnly)) {
                    Arrays.fill(cells, NONE);
                    cells[0] = place;
                    markEdges(place);
                    spread(program.start, 0, place);
                }
                exchangeLists();
                if (nowCount == 0 && (hasFound || wholeOnly)) {
                    break;
                }
                markEdges(place + 1);
                hasFound |= goAlong(place, wholeOnly, spans);
            }
            return hasFound;
        }

        private void markEdges(int place) {
            for (int which = 0; which < edges.length; which++) {
                edges[which] = edgeHolds(which, subject, place);
            }
        }

        private void exchangeLists() {
            int[] at = nowAt;
            int[] itsCells = nowCells;
            nowAt = nextAt;
            nowCells = nextCells;
            nowCount = nextCount;
            nextAt = at;
            nextCells = itsCells;
            nextCount = 0;
            stamp++;
        }

        /** Moves all ways that wait at a place; whether one of them ends there, which ends all later ones. */
        private boolean goAlong(int place, boolean wholeOnly, Row spans) {
            for (int i = 0; i < nowCount && i < THREAD_ROOM; i++) {
                int pc = nowAt[i];
                System.arraycopy(nowCells, i * WIDTH, cells, 0, WIDTH);
                if (program.kindOf(pc) != Program.END) {
                    if (place < subject.count && program.takes(pc, subject.at(place))) {
                        spread(program.nextOf(pc), program.otherOf(pc), place + 1);
                    }
                } else if (!wholeOnly || place == subject.count) {
                    cells[1] = place;
                    tell(spans);
                    return true;
                }
            }
            return false;
        }

        private void tell(Row spans) {
            spans.empty();
            for (int i = 0; i < width && i < WIDTH; i++) {
                spans.add(cells[i]);
            }
        }

        /** Goes on from an instruction without taking a sign, in the order of the ways. */
        private void spread(int begin, int moved, int place) {
            stackCount = 0;
            push(begin, moved);
            for (int i = 0; i < STACK_ROOM && stackCount > 0 && stackCount <= STACK_ROOM; i++) {
                stackCount--;
                int pc = stack[stackCount];
                int with = kept[stackCount];
                if (pc < 0) {
                    setCell(-1 - pc, with);
                } else if (isNew(pc * MOVED_ROOM + with)) {
                    spreadOne(pc, with, place);
                }
            }
        }

        private boolean isNew(int state) {
            if (state < 0 || state >= SEEN_ROOM || seen[state] == stamp) {
                return false;
            }
            seen[state] = stamp;
            return true;
        }

        private void spreadOne(int pc, int moved, int place) {
            int next = program.nextOf(pc);
            switch (program.kindOf(pc)) {
                case Program.ASK:
                    int which = program.subjectOf(pc);
                    if (which >= 0 && which < edges.length && edges[which]) {
                        push(next, moved);
                    }
                    break;
                case Program.SPLIT:
                    push(program.otherOf(pc), moved);
                    push(next, moved);
                    break;
                case Program.AGAIN:
                    if (moved >= program.otherOf(pc)) {
                        push(next, moved - 1);
                    }
                    break;
                case Program.OPEN: case Program.CLOSE:
                    int cell = 2 * program.subjectOf(pc) + (program.kindOf(pc) == Program.OPEN ? 0 : 1);
                    // What the cell was comes back for the ways that branched off ahead of here.
                    push(-1 - cell, cellAt(cell));
                    setCell(cell, place);
                    push(next, moved);
                    break;
                default:
                    stopAt(pc);
                    break;
            }
        }

        private void push(int pc, int with) {
            if (stackCount >= 0 && stackCount < STACK_ROOM) {
                stack[stackCount] = pc;
                kept[stackCount] = with;
                stackCount++;
            }
        }

        private int cellAt(int cell) {
            return cell >= 0 && cell < WIDTH ? cells[cell] : NONE;
        }

        private void setCell(int cell, int value) {
            if (cell >= 0 && cell < WIDTH) {
                cells[cell] = value;
            }
        }

        /** Who takes a sign has then moved in all loops, so here all ways are the same. */
        private void stopAt(int pc) {
            boolean known = pc >= 0 && pc < PROGRAM_ROOM && waits[pc] == stamp;
            if (!known && pc >= 0 && pc < PROGRAM_ROOM && nextCount >= 0 && nextCount < THREAD_ROOM) {
                waits[pc] = stamp;
                nextAt[nextCount] = pc;
                System.arraycopy(cells, 0, nextCells, nextCount * WIDTH, WIDTH);
                nextCount++;
            }
        }
    }

    /** The signs, parted so that no pattern tells two signs of one class apart. */
    private static final class Alphabet {
        int count;
        private final int[] begins = new int[CLASS_ROOM];

        void gather(Tree tree, Tree other) {
            count = 1;
            begins[0] = 0;
            addTree(tree);
            if (other != null) {
                addTree(other);
            }
        }

        int leastOf(int i) {
            return i >= 0 && i < count ? begins[i] : 0;
        }

        int classOf(int c) {
            int found = 0;
            for (int i = 1; i < count && begins[i] <= c; i++) {
                found = i;
            }
            return found;
        }

        private void addTree(Tree tree) {
            for (int k = 0; tree.has(k); k++) {
                switch (tree.sortOf(k)) {
                    case SIGN:
                        addRange(tree.valueOf(k), tree.valueOf(k), tree.isWithinCase(k));
                        break;
                    case ANY:
                        addRange(10, 10, false);
                        break;
                    case SET:
                        addParts(tree, k);
                        break;
                    default:
                        break;
                }
            }
        }

        private void addParts(Tree tree, int k) {
            for (int i = 0; i < tree.partsOf(k); i++) {
                addRange(tree.partBegin(k, i), tree.partEnd(k, i), tree.isWithinCase(k));
            }
        }

        private void addRange(int begin, int end, boolean withinCase) {
            addBegin(begin);
            addBegin(end + 1);
            if (withinCase && begin <= 'Z' && end >= 'A') {
                addBegin(Math.max(begin, 'A') + 32);
                addBegin(Math.min(end, 'Z') + 33);
            }
            if (withinCase && begin <= 'z' && end >= 'a') {
                addBegin(Math.max(begin, 'a') - 32);
                addBegin(Math.min(end, 'z') - 31);
            }
        }

        private void addBegin(int c) {
            int at = 0;
            while (at < count && begins[at] < c) {
                at++;
            }
            boolean known = at < count && begins[at] == c;
            if (known || c > LAST_SIGN || count >= CLASS_ROOM) {
                return;
            }
            for (int i = count; i > at; i--) {
                begins[i] = begins[i - 1];
            }
            begins[at] = c;
            count++;
        }
    }

    /** The table of a pattern: state 0 is that of no text, the others are sets of positions. */
    private static final class Table {
        private static final long ENDS = 1L << 63;

        int count;
        private final Program program = new Program();
        private int positionCount;
        private final int[] positionOf = new int[PROGRAM_ROOM];
        private final int[] pcOf = new int[POSITION_ROOM];
        private final long[] follow = new long[POSITION_ROOM];
        private final long[] takers = new long[CLASS_ROOM];
        private final int[] seen = new int[PROGRAM_ROOM];
        private int stamp;
        private final int[] stack = new int[PROGRAM_ROOM];
        private int stackCount;
        private int width;
        private final long[] states = new long[STATE_ROOM];
        private final long[] ahead = new long[STATE_ROOM];
        private final int[] goes = new int[STATE_ROOM * CLASS_ROOM];
        private final boolean[] live = new boolean[STATE_ROOM];
        private final int[] groups = new int[STATE_ROOM];
        private final int[] finer = new int[STATE_ROOM];

        /** Whether the table has no more states than there is room for. */
        boolean make(Tree tree, Alphabet alphabet) {
            program.write(tree);
            width = Math.min(CLASS_ROOM, alphabet.count);
            numberPositions();
            for (int i = 0; i < positionCount; i++) {
                follow[i] = reach(program.nextOf(pcOf[i]));
            }
            for (int i = 0; i < width; i++) {
                takers[i] = takersOf(alphabet.leastOf(i));
            }
            count = 1;
            states[0] = 0;
            ahead[0] = reach(program.start);
            boolean fits = true;
            for (int state = 0; fits && state < count && state < STATE_ROOM; state++) {
                fits = fillState(state);
            }
            return fits;
        }

        private void numberPositions() {
            positionCount = 0;
            for (int pc = 0; program.has(pc); pc++) {
                if (program.kindOf(pc) == Program.TAKE && positionCount < POSITION_ROOM) {
                    positionOf[pc] = positionCount;
                    pcOf[positionCount] = pc;
                    positionCount++;
                }
            }
        }

        private long takersOf(int c) {
            long taking = 0;
            for (int i = 0; i < positionCount; i++) {
                if (program.takes(pcOf[i], c)) {
                    taking |= 1L << i;
                }
            }
            return taking;
        }

        /** The positions that may take the next sign from an instruction on, and whether a text may end. */
        private long reach(int begin) {
            long reached = 0;
            stamp++;
            stackCount = 0;
            push(begin);
            for (int i = 0; i < stack.length && stackCount > 0 && stackCount <= stack.length; i++) {
                stackCount--;
                int pc = stack[stackCount];
                int kind = program.kindOf(pc);
                if (kind == Program.TAKE && pc >= 0 && pc < PROGRAM_ROOM) {
                    reached |= 1L << positionOf[pc];
                } else if (kind == Program.END) {
                    reached |= ENDS;
                } else {
                    push(kind == Program.SPLIT ? program.otherOf(pc) : NONE);
                    push(program.nextOf(pc));
                }
            }
            return reached;
        }

        private void push(int pc) {
            if (pc >= 0 && pc < PROGRAM_ROOM && seen[pc] != stamp && stackCount >= 0 && stackCount < stack.length) {
                seen[pc] = stamp;
                stack[stackCount] = pc;
                stackCount++;
            }
        }

        private boolean fillState(int state) {
            for (int i = 0; i < width; i++) {
                int next = stateOf(ahead[state] & takers[i]);
                if (next == NONE) {
                    return false;
                }
                goes[state * CLASS_ROOM + i] = next;
            }
            return true;
        }

        /** The state of a set, a new one if there was none; NONE beyond the room. */
        private int stateOf(long set) {
            for (int state = 1; state < count && state < STATE_ROOM; state++) {
                if (states[state] == set) {
                    return state;
                }
            }
            if (count >= STATE_ROOM) {
                return NONE;
            }
            states[count] = set;
            ahead[count] = followOf(set);
            count++;
            return count - 1;
        }

        private long followOf(long set) {
            long following = 0;
            for (int i = 0; i < positionCount; i++) {
                if ((set >>> i & 1) == 1) {
                    following |= follow[i];
                }
            }
            return following;
        }

        boolean ends(int state) {
            return state >= 0 && state < count && (ahead[state] & ENDS) != 0;
        }

        int next(int state, int signClass) {
            boolean known = state >= 0 && state < count && signClass >= 0 && signClass < width;
            return known ? goes[state * CLASS_ROOM + signClass] : 0;
        }

        int longestBeginning(Alphabet alphabet, Row subject, int from) {
            markLive();
            if (!live[0]) {
                return NONE;
            }
            int state = 0;
            int length = 0;
            for (int i = from; i < subject.count; i++) {
                state = next(state, alphabet.classOf(subject.at(i)));
                if (state < 0 || state >= STATE_ROOM || !live[state]) {
                    break;
                }
                length++;
            }
            return length;
        }

        /** A state is live if a text goes on from it to one that ends. */
        private void markLive() {
            for (int state = 0; state < count; state++) {
                live[state] = ends(state);
            }
            boolean more = true;
            for (int i = 0; more && i < count; i++) {
                more = false;
                for (int state = 0; state < count; state++) {
                    if (!live[state] && leadsToLive(state)) {
                        live[state] = true;
                        more = true;
                    }
                }
            }
        }

        private boolean leadsToLive(int state) {
            for (int i = 0; i < width; i++) {
                int next = next(state, i);
                if (next >= 0 && next < STATE_ROOM && live[next]) {
                    return true;
                }
            }
            return false;
        }

        /** States stay together until a sign leads them apart. */
        int fewestStates() {
            int groupCount = 0;
            for (int state = 0; state < count; state++) {
                groups[state] = ends(state) ? 1 : 0;
            }
            for (int i = 0; i <= count; i++) {
                int finerCount = refine();
                System.arraycopy(finer, 0, groups, 0, STATE_ROOM);
                if (finerCount == groupCount) {
                    break;
                }
                groupCount = finerCount;
            }
            return groupCount;
        }

        private int refine() {
            int finerCount = 0;
            for (int state = 0; state < count; state++) {
                int like = 0;
                while (like < state && !staysTogether(like, state)) {
                    like++;
                }
                finer[state] = like < state ? finer[like] : finerCount;
                finerCount += like < state ? 0 : 1;
            }
            return finerCount;
        }

        private boolean staysTogether(int a, int b) {
            if (groupOf(a) != groupOf(b)) {
                return false;
            }
            for (int i = 0; i < width; i++) {
                if (groupOf(next(a, i)) != groupOf(next(b, i))) {
                    return false;
                }
            }
            return true;
        }

        private int groupOf(int state) {
            return state >= 0 && state < STATE_ROOM ? groups[state] : NONE;
        }
    }

    /** The tables of one or two patterns over one alphabet, and the walk through both at once. */
    private static final class Sets {
        private static final int PAIR_ROOM = STATE_ROOM * STATE_ROOM;

        final Alphabet alphabet = new Alphabet();
        final Table one = new Table();
        private final Table other = new Table();
        boolean onlyInOne;
        boolean onlyInOther;
        private final int[] met = new int[PAIR_ROOM];
        private int stamp;
        private final int[] pairs = new int[PAIR_ROOM];
        private final int[] cameFrom = new int[PAIR_ROOM];
        private final int[] cameBy = new int[PAIR_ROOM];
        private int pairCount;
        private int parted;

        boolean make(Tree tree, Tree otherTree) {
            alphabet.gather(tree, otherTree);
            return one.make(tree, alphabet) && (otherTree == null || other.make(otherTree, alphabet));
        }

        int longestBeginning(Row subject, int from) {
            return one.longestBeginning(alphabet, subject, from);
        }

        /** Shorter texts come first, and of those of one length the lesser, for the signs are tried in order. */
        void walkBoth() {
            onlyInOne = false;
            onlyInOther = false;
            parted = NONE;
            stamp++;
            pairCount = 0;
            meet(0, NONE, 0);
            for (int i = 0; i < pairCount && i < PAIR_ROOM; i++) {
                int a = pairs[i] / STATE_ROOM;
                int b = pairs[i] % STATE_ROOM;
                look(i, one.ends(a), other.ends(b));
                for (int c = 0; c < alphabet.count; c++) {
                    meet(one.next(a, c) * STATE_ROOM + other.next(b, c), i, alphabet.leastOf(c));
                }
            }
        }

        private void look(int i, boolean inOne, boolean inOther) {
            onlyInOne |= inOne && !inOther;
            onlyInOther |= inOther && !inOne;
            if (inOne != inOther && parted == NONE) {
                parted = i;
            }
        }

        private void meet(int pair, int from, int sign) {
            if (pair < 0 || pair >= PAIR_ROOM || met[pair] == stamp || pairCount >= PAIR_ROOM) {
                return;
            }
            met[pair] = stamp;
            pairs[pairCount] = pair;
            cameFrom[pairCount] = from;
            cameBy[pairCount] = sign;
            pairCount++;
        }

        /** Writes the text that leads to the first pair that parts both. */
        void writeParting(Row row) {
            row.empty();
            for (int i = parted; i > 0 && i < PAIR_ROOM; i = cameFrom[i]) {
                row.add(cameBy[i]);
            }
            row.turnRound();
        }
    }
}
