import java.util.Arrays;

/** A forest without an axe: trees that fall when it is over between the two whose names they bear. */
public final class FelledByNames {
    private static final int LOW = -1000000000;
    private static final int BEYOND = 1;
    private static final int NONE = 2;
    private static final int STATE = 3;
    private static final int FULL = 4;
    private static final int KIND = 5;

    private static final int PEOPLE = 6;
    private static final int CELLS = PEOPLE * PEOPLE;
    private static final int MOST_HOLD = 99;
    private static final int MOST_TALK = 9;
    private static final int MOST_DAY = 9999;
    private static final int MOST_PLACE = 15;
    private static final int MOST_HARM = 999;
    private static final int MOST_WOOD = 99999;
    private static final int MOST_HEIGHT = 99;

    private static final int TREES = 8;
    private static final int ALL_TREES = (1 << TREES) - 1;
    private static final int KINDS = 7;
    private static final int MOST_KM = KINDS * 10 - 1;

    private static final int USES = 2;
    private static final int TAPE = 50;
    private static final int FAULTS = -10;

    private static final int FAR = 60;
    private static final int NEAR = 30;
    private static final int LOOSE = 40;

    private static final int SHEETS = 4;
    private static final int NUMBERS = 40;
    private static final int BODIES = 40;
    private static final int WAITING = 20;

    private final Row tape = new Row(TAPE);
    private final Text cools = new Text(tape, "htd", -9, 9);
    private final Text woods = new Text(tape, "xmp", 0, 99);
    private final World now = new World(cools, woods);
    private final World thought = new World(cools, woods);
    private final Row waiting = new Row(WAITING);
    private final Row bodies = new Row(BODIES);
    private final Sheet[] sheets = new Sheet[SHEETS];
    private final int[] errors = new int[KIND + 1];

    private final World keptWorld = new World(cools, woods);
    private final Row keptTape = new Row(TAPE);
    private final Row keptWaiting = new Row(WAITING);
    private final Row keptCools = new Row(TAPE);
    private final Row keptWoods = new Row(TAPE);
    private int images = 0;

    public FelledByNames() {
        cools.begin("0-t");
        woods.begin("x");
        for (int i = 0; i < SHEETS; i++) {
            sheets[i] = new Sheet();
        }
    }

    // ---- people, the fence, trees

    public int hold(int one, int other, int v) {
        if (!areTwo(one, other) || !within(v, MOST_HOLD)) {
            return error(BEYOND);
        }
        int was = now.holds[cell(one, other)];
        now.holds[cell(one, other)] = v;
        return was;
    }

    public int holds(int one, int other) {
        if (!areTwo(one, other)) {
            return error(BEYOND);
        }
        return now.holds[cell(one, other)];
    }

    public int talk(int person, int v) {
        if (!within(person, PEOPLE - 1) || !within(v, MOST_TALK)) {
            return error(BEYOND);
        }
        int was = now.talk[person];
        now.talk[person] = v;
        return was;
    }

    public int talkOf(int person) {
        if (!within(person, PEOPLE - 1)) {
            return error(BEYOND);
        }
        return now.talk[person];
    }

    public int set(int what, int v) {
        int was;
        if (what == 0 && within(v, MOST_PLACE)) {
            was = now.fence;
            now.fence = v;
        } else if (what == 1 && within(v, MOST_HARM)) {
            was = now.harm;
            now.harm = v;
        } else if (what == 2 && within(v, MOST_WOOD)) {
            was = now.wood;
            now.wood = v;
        } else {
            return error(BEYOND);
        }
        return was;
    }

    public int tree(int km, int pair, int place, int height) {
        boolean named = pair >= 0 && areTwo(pair / 10, pair % 10);
        if (!within(km, MOST_KM) || !named || !within(place, MOST_PLACE) || !within(height, MOST_HEIGHT)) {
            return error(BEYOND);
        }
        if (now.treeCount >= TREES) {
            return error(FULL);
        }
        Tree grown = newTree(km / 10, now.treeCount);
        grown.m = km % 10;
        grown.one = pair / 10;
        grown.other = pair % 10;
        grown.place = place;
        grown.height = height;
        now.trees[grown.number] = grown;
        now.treeCount++;
        return grown.number;
    }

    public int ofTree(int tree, int what) {
        if (!isTree(tree)) {
            return error(BEYOND);
        }
        Tree asked = now.trees[tree];
        switch (what) {
            case 0: return asked.kind;
            case 1: return asked.m;
            case 2: return asked.one * 10 + asked.other;
            case 3: return asked.place;
            case 4: return asked.height;
            case 5: return asked.standing ? 1 : 0;
            case 6: return asked.limit(now.day);
            case 7: return asked.reaches();
            default: return error(BEYOND);
        }
    }

    public int change(int tree, int what, int v) {
        if (!isTree(tree)) {
            return error(BEYOND);
        }
        Tree changed = now.trees[tree];
        int was;
        if (what == 0 && within(v, MOST_PLACE)) {
            was = changed.place;
            changed.place = v;
        } else if (what == 1 && within(v, MOST_HEIGHT)) {
            was = changed.height;
            changed.height = v;
        } else if (what == 2 && within(v, 1)) {
            was = changed.standing ? 1 : 0;
            changed.standing = v == 1;
        } else {
            return error(BEYOND);
        }
        return was;
    }

    public int become(int tree, int km) {
        if (!isTree(tree) || !within(km, MOST_KM)) {
            return error(BEYOND);
        }
        Tree before = now.trees[tree];
        Tree after = newTree(km / 10, tree);
        after.takeFrom(before);
        after.m = km % 10;
        now.trees[tree] = after;
        return before.kind;
    }

    public int as(int tree, int kind) {
        if (!isTree(tree) || !within(kind, KINDS - 1)) {
            return error(BEYOND);
        }
        Tree asked = now.trees[tree];
        return isOfKind(asked, kind) ? asked.m : error(KIND);
    }

    // ---- texts

    public int feed(long word, int n) {
        if (n < 1 || n > 8) {
            return error(BEYOND);
        }
        if (tape.size + n > TAPE) {
            return error(FULL);
        }
        for (int i = 0; i < n; i++) {
            tape.add((int) (word >>> 8 * i) & 255);
        }
        return tape.size;
    }

    public int text(int use) {
        if (!within(use, USES - 1)) {
            return error(BEYOND);
        }
        int fault = (use == 0 ? cools : woods).read();
        tape.clear();
        return fault < 0 ? 1 : FAULTS - fault;
    }

    public int law(int use, int a, int b, int c) {
        if (!within(use, USES - 1)) {
            return error(BEYOND);
        }
        return (use == 0 ? cools : woods).gives(a, b, c);
    }

    // ---- days

    public int days(int n) {
        if (n < 1 || n > FAR) {
            return error(BEYOND);
        }
        if (now.day + n > MOST_DAY) {
            return error(STATE);
        }
        now.fell.clear();
        for (int i = 0; i < n; i++) {
            now.passDay();
        }
        return now.fell.size;
    }

    public int loose(int n) {
        if (n < 1 || n > LOOSE) {
            return error(BEYOND);
        }
        if (now.day + n > MOST_DAY) {
            return error(STATE);
        }
        now.fell.clear();
        for (int i = 0; i < n; i++) {
            now.drawTalk();
            now.passDay();
        }
        return now.fell.size;
    }

    // ---- what would be

    public int then(int n, int one, int other) {
        if (!within(n, FAR) || !areTwo(one, other)) {
            return error(BEYOND);
        }
        // No TREE changes how much anyone HOLDS, so one pair goes ahead by itself.
        int held = now.holds[cell(one, other)];
        int both = now.talk[one] + now.talk[other];
        for (int i = 0; i < n; i++) {
            held = clamp(held + cools.cooling(held, both, (now.day + i) % 7), 0, MOST_HOLD);
        }
        return held;
    }

    public int when(int tree) {
        if (!isTree(tree)) {
            return error(BEYOND);
        }
        thought.imagine(now);
        thought.passUntilDown(1 << tree, FAR);
        return thought.trees[tree].standing ? error(NONE) : thought.day - now.day;
    }

    public int down(int n) {
        if (!within(n, FAR)) {
            return error(BEYOND);
        }
        thought.imagine(now);
        thought.passUntilDown(ALL_TREES, n);
        return thought.setOfTrees(false);
    }

    public int gossip(int tree, int n) {
        if (!isTree(tree) || !within(n, NEAR)) {
            return error(BEYOND);
        }
        Tree told = now.trees[tree];
        for (int v = 0; v <= MOST_TALK; v++) {
            if (fallsByTalk(1 << told.one | 1 << told.other, v, 1 << tree, n)) {
                return v;
            }
        }
        return error(NONE);
    }

    public int about(int trees, int n) {
        if (!within(trees, (1 << now.treeCount) - 1) || !within(n, NEAR)) {
            return error(BEYOND);
        }
        for (int size = 0; size <= PEOPLE; size++) {
            for (int people = 0; people < 1 << PEOPLE; people++) {
                if (Integer.bitCount(people) == size && fallsByTalk(people, MOST_TALK, trees, n)) {
                    return people;
                }
            }
        }
        return error(NONE);
    }

    public int talked(int sheet, int what) {
        if (!isSheet(sheet) || !within(what, 1)) {
            return error(BEYOND);
        }
        Sheet told = sheets[sheet];
        int last = told.get(told.size - 1);
        if (told.isMissing() || told.size != now.treeCount + 1 || !within(last, NEAR)) {
            return error(NONE);
        }
        int many = 0;
        int least = -1;
        for (int v = MOST_TALK; v >= 0; v--) {
            if (standsByTalk(told, v, last)) {
                many++;
                least = v;
            }
        }
        if (what == 0) {
            return many;
        }
        return least < 0 ? error(NONE) : least;
    }

    public int crash(int tree) {
        if (!isTree(tree)) {
            return error(BEYOND);
        }
        if (!now.trees[tree].standing) {
            return 0;
        }
        thought.imagine(now);
        thought.fall(thought.trees[tree], 1);
        return thought.fell.size;
    }

    public int keeper(int n, int what) {
        if (!within(n, NEAR) || !within(what, 1)) {
            return error(BEYOND);
        }
        int best = 0;
        int most = -1;
        for (int person = 0; person < PEOPLE; person++) {
            thought.imagine(now);
            thought.holdFast(person);
            thought.passUntilDown(ALL_TREES, n);
            int many = Integer.bitCount(thought.setOfTrees(true));
            if (many > most) {
                most = many;
                best = person;
            }
        }
        return what == 0 ? best : most;
    }

    public int order(int sheet) {
        if (!isSheet(sheet)) {
            return error(BEYOND);
        }
        Sheet told = sheets[sheet];
        if (told.isMissing()) {
            return error(NONE);
        }
        thought.imagine(now);
        thought.passUntilDown(ALL_TREES, FAR);
        int most = Math.min(told.size, thought.fell.size);
        int right = 0;
        while (right < most && told.get(right) == thought.fell.get(right)) {
            right++;
        }
        return right;
    }

    public int timber(int n) {
        if (!within(n, FAR)) {
            return error(BEYOND);
        }
        thought.imagine(now);
        thought.passUntilDown(ALL_TREES, n);
        return thought.wood - now.wood;
    }

    public int safe(int n) {
        if (!within(n, FAR)) {
            return error(BEYOND);
        }
        thought.imagine(now);
        thought.passUntilDown(ALL_TREES, n);
        // Where the FENCE is changes nothing else, so one thought tells of every PLACE.
        int best = MOST_PLACE;
        int least = MOST_HARM;
        for (int place = MOST_PLACE; place >= 0; place--) {
            int harm = Math.min(now.harm + thought.hits[place], MOST_HARM);
            if (harm < least) {
                least = harm;
                best = place;
            }
        }
        return best;
    }

    public int odds(int tree, int n, int part) {
        if (!isTree(tree) || !within(n, FAR) || !within(part, 1)) {
            return error(BEYOND);
        }
        Tree asked = now.trees[tree];
        int above = 0;
        for (int v = 0; v <= 90; v += 10) {
            thought.imagine(now);
            thought.holds[cell(asked.one, asked.other)] = v;
            thought.holds[cell(asked.other, asked.one)] = v;
            thought.passUntilDown(1 << tree, n);
            if (!thought.trees[tree].standing) {
                above++;
            }
        }
        int shared = commonDivisor(above, 10);
        return (part == 0 ? above : 10) / shared;
    }

    // ---- draws, voices, sheets, images, what is told

    public int seed(int v) {
        int was = now.z;
        now.z = v;
        return was;
    }

    public int voice(int tree, int act, int x) {
        if (!isTree(tree) || !within(act, 3)) {
            return error(BEYOND);
        }
        Tree speaker = now.trees[tree];
        bodies.clear();
        switch (act) {
            case 0: return speaker.creaks(x, bodies);
            case 1: return speaker.stands(x, bodies);
            case 2: return speaker.leans(x, bodies);
            default: return speaker.tells(x, bodies);
        }
    }

    public int trace(int i) {
        return bodies.has(i) ? bodies.get(i) : error(NONE);
    }

    public int sheet(int sheet, int bits, int n) {
        if (!isSheet(sheet) || bits != 0 && bits != 8 && bits != 16 && bits != 32) {
            return error(BEYOND);
        }
        if (bits != 0 && n < 0) {
            return error(STATE);
        }
        if (bits != 0 && n > NUMBERS) {
            return error(BEYOND);
        }
        sheets[sheet].renew(bits, bits == 0 ? 0 : n);
        return 1;
    }

    public int put(int sheet, int i, int v) {
        if (!isSheet(sheet)) {
            return error(BEYOND);
        }
        Sheet changed = sheets[sheet];
        if (changed.isMissing()) {
            return error(NONE);
        }
        if (!changed.has(i)) {
            return error(BEYOND);
        }
        changed.at[i] = changed.lowestBits(v);
        return 1;
    }

    public int move(int sheet, int i, int other, int j, int n) {
        if (!isSheet(sheet) || !isSheet(other)) {
            return error(BEYOND);
        }
        Sheet from = sheets[sheet];
        Sheet to = sheets[other];
        if (from.isMissing() || to.isMissing()) {
            return error(NONE);
        }
        if (from.bits != to.bits) {
            return error(KIND);
        }
        if (!from.hasRun(i, n) || !to.hasRun(j, n)) {
            return error(BEYOND);
        }
        System.arraycopy(from.at, i, to.at, j, n);
        return n;
    }

    public int talks(int sheet) {
        if (!isSheet(sheet)) {
            return error(BEYOND);
        }
        Sheet told = sheets[sheet];
        if (told.isMissing()) {
            return error(NONE);
        }
        int most = Math.min(told.size, PEOPLE);
        int many = 0;
        while (many < most && within(told.get(many), MOST_TALK)) {
            now.talk[many] = told.get(many);
            many++;
        }
        return many;
    }

    public int judge(int sheet) {
        if (!isSheet(sheet)) {
            return error(BEYOND);
        }
        Sheet told = sheets[sheet];
        if (told.isMissing()) {
            return error(NONE);
        }
        int both = Math.min(told.size, now.treeCount);
        for (int i = 0; i < both; i++) {
            if (told.get(i) != now.trees[i].height) {
                return i;
            }
        }
        return told.size == now.treeCount ? -1 : both;
    }

    public int image() {
        keptWorld.takeFrom(now);
        keptTape.takeFrom(tape);
        keptWaiting.takeFrom(waiting);
        keptCools.takeFrom(cools.code);
        keptWoods.takeFrom(woods.code);
        images++;
        return images;
    }

    public int restore() {
        if (images == 0) {
            return error(NONE);
        }
        now.takeFrom(keptWorld);
        tape.takeFrom(keptTape);
        waiting.takeFrom(keptWaiting);
        cools.takeCode(keptCools);
        woods.takeCode(keptWoods);
        return now.day;
    }

    public int tell(int v) {
        if (waiting.size >= WAITING) {
            return error(FULL);
        }
        waiting.add(v);
        return waiting.size;
    }

    public int check() {
        int wrong = 0;
        thought.imagine(now);
        for (int i = 0; i < waiting.size && wrong == 0; i++) {
            thought.passDay();
            if (Integer.bitCount(thought.setOfTrees(true)) != waiting.get(i)) {
                wrong = 1 + i;
            }
        }
        waiting.clear();
        return wrong;
    }

    public int count(int what) {
        switch (what) {
            case 0: return now.treeCount;
            case 1: return now.day;
            case 2: return now.fence;
            case 3: return now.harm;
            case 4: return now.wood;
            case 5: return now.setOfTrees(true);
            case 6: return now.sumOfHolds();
            case 7: return tape.size;
            case 8: return waiting.size;
            case 9: return bodies.size;
            case 10: return now.z;
            default: return error(BEYOND);
        }
    }

    public int told(int k) {
        if (k < BEYOND || k > KIND) {
            return error(BEYOND);
        }
        return errors[k];
    }

    // ---- what the acts share

    private int error(int k) {
        if (within(k, KIND)) {
            errors[k]++;
        }
        return LOW - k;
    }

    private static boolean within(int v, int most) {
        return v >= 0 && v <= most;
    }

    private static int clamp(int v, int low, int high) {
        return Math.max(low, Math.min(high, v));
    }

    private static boolean areTwo(int one, int other) {
        return within(one, PEOPLE - 1) && within(other, PEOPLE - 1) && one != other;
    }

    private static int cell(int one, int other) {
        return one * PEOPLE + other;
    }

    private static boolean isSheet(int sheet) {
        return within(sheet, SHEETS - 1);
    }

    private boolean isTree(int tree) {
        return within(tree, now.treeCount - 1);
    }

    private static int commonDivisor(int a, int b) {
        for (int d = Math.max(a, b); d > 1; d--) {
            if (a % d == 0 && b % d == 0) {
                return d;
            }
        }
        return 1;
    }

    /** Whether none of a set of TREES stands behind n DAYS, TALK about a set of PEOPLE being v. */
    private boolean fallsByTalk(int people, int v, int trees, int n) {
        thought.imagine(now);
        thought.talkAbout(people, v);
        thought.passUntilDown(trees, n);
        return (thought.setOfTrees(true) & trees) == 0;
    }

    /** Whether TREES stand behind n DAYS as a SHEET tells, TALK about all being v. */
    private boolean standsByTalk(Sheet told, int v, int n) {
        thought.imagine(now);
        thought.talkAbout((1 << PEOPLE) - 1, v);
        thought.passUntilDown(ALL_TREES, n);
        for (int i = 0; i < thought.treeCount; i++) {
            if (told.get(i) != (thought.trees[i].standing ? 1 : 0)) {
                return false;
            }
        }
        return true;
    }

    private static Tree newTree(int kind, int number) {
        switch (kind) {
            case 1: return new Beech(kind, number);
            case 2: return new Oak(kind, number);
            case 3: return new Sapling(kind, number);
            case 4: return new Wedged(kind, number);
            case 5: return new Hollow(kind, number);
            case 6: return new Hill(kind, number);
            default: return new Tree(0, number);
        }
    }

    private static boolean isOfKind(Tree tree, int kind) {
        switch (kind) {
            case 0: return true;
            case 1: return tree instanceof Beech;
            case 2: return tree instanceof Oak;
            case 3: return tree instanceof Sapling;
            case 4: return tree instanceof Wedged;
            case 5: return tree instanceof Hollow;
            case 6: return tree instanceof Hill;
            default: return false;
        }
    }

    /** Numbers one behind the other, at most as many as there is room for. */
    private static class Row {
        final int[] at;
        int size = 0;

        Row(int room) {
            at = new int[Math.max(room, 0)];
        }

        final boolean has(int i) {
            return i >= 0 && i < size;
        }

        final int get(int i) {
            return i >= 0 && i < size ? at[i] : -1;
        }

        final void add(int v) {
            if (size < at.length) {
                at[size] = v;
                size++;
            }
        }

        final void clear() {
            size = 0;
        }

        final void takeFrom(Row other) {
            size = Math.min(other.size, at.length);
            System.arraycopy(other.at, 0, at, 0, size);
        }
    }

    /** A SHEET; one of 0 bits is missing. */
    private static final class Sheet extends Row {
        int bits = 0;

        Sheet() {
            super(NUMBERS);
        }

        boolean isMissing() {
            return bits == 0;
        }

        void renew(int newBits, int n) {
            bits = newBits;
            size = clamp(n, 0, NUMBERS);
            Arrays.fill(at, 0);
        }

        int lowestBits(int v) {
            switch (bits) {
                case 8: return (byte) v;
                case 16: return (short) v;
                default: return v;
            }
        }

        /** The end is never added up, since i + n may go round. */
        boolean hasRun(int i, int n) {
            return i >= 0 && n >= 0 && n <= size - i;
        }
    }

    /** A TEXT of one USE, kept as a row of words in the order in which they are worked out. */
    private static final class Text {
        private static final int NAME = 10000;
        private static final int SIGN = 20000;
        private static final int LEVELS = 5;
        private static final int COMPARING = 2;
        private static final int MOST_OPEN = 5;
        private static final int DIGITS = 4;
        private static final int SHORT = 3;
        private static final int HELD = MOST_HOLD + 1;
        private static final int TALKED = 2 * MOST_TALK + 1;
        private static final int ASKED = 7 * TALKED * HELD;

        final Row code = new Row(TAPE);
        private final Row tape;
        private final String names;
        private final int low;
        private final int high;
        private final Row draft = new Row(TAPE);
        private final int[] stack = new int[TAPE];
        private int place = 0;
        private int open = 0;
        private int fault = -1;
        private byte[] known = null;

        Text(Row tape, String names, int low, int high) {
            this.tape = tape;
            this.names = names;
            this.low = low;
            this.high = high;
        }

        /** What holds as long as no TEXT was given is a TEXT as well. */
        void begin(String plain) {
            for (int i = 0; i < plain.length(); i++) {
                tape.add(plain.charAt(i));
            }
            read();
            tape.clear();
        }

        void takeCode(Row other) {
            code.takeFrom(other);
            forget();
        }

        private void forget() {
            if (known != null) {
                Arrays.fill(known, (byte) 0);
            }
        }

        /** Reads THE TAPE: the FAULT, with which all stays as it was, or -1. */
        int read() {
            place = 0;
            open = 0;
            fault = -1;
            draft.clear();
            readLevel(0);
            if (fault < 0 && place < tape.size) {
                fault = place;
            }
            if (fault < 0) {
                takeCode(draft);
            }
            return fault;
        }

        private static String signsOf(int level) {
            switch (level) {
                case 0: return "|";
                case 1: return "&";
                case COMPARING: return "<=>";
                case 3: return "+-";
                default: return "*/%";
            }
        }

        private void readLevel(int level) {
            if (level >= LEVELS) {
                readPart();
                return;
            }
            readLevel(level + 1);
            int most = level == COMPARING ? 1 : TAPE;
            for (int i = 0; i < most; i++) {
                int sign = taken(signsOf(level));
                if (sign < 0) {
                    break;
                }
                readLevel(level + 1);
                draft.add(SIGN + sign);
            }
        }

        /** The next byte, which is left behind, if it is one of these; or -1. */
        private int taken(String signs) {
            int next = tape.get(place);
            if (fault >= 0 || next < 0 || signs.indexOf((char) next) < 0) {
                return -1;
            }
            place++;
            return next;
        }

        private void readPart() {
            int next = tape.get(place);
            if (fault >= 0) {
                return;
            }
            if (isDigit(next)) {
                readNumber();
            } else if (next >= 0 && names.indexOf((char) next) >= 0) {
                draft.add(NAME + names.indexOf((char) next));
                place++;
            } else if ((next == '!' || next == '(') && open < MOST_OPEN) {
                readOpen(next);
            } else {
                fault = place;
            }
        }

        private static boolean isDigit(int sign) {
            return sign >= '0' && sign <= '9';
        }

        private void readNumber() {
            int value = 0;
            for (int i = 0; i < DIGITS && isDigit(tape.get(place)); i++) {
                value = value * 10 + tape.get(place) - '0';
                place++;
            }
            draft.add(value);
        }

        private void readOpen(int sign) {
            place++;
            open++;
            if (sign == '!') {
                readPart();
                draft.add(SIGN + '!');
            } else {
                readLevel(0);
                if (taken(")") < 0 && fault < 0) {
                    fault = place;
                }
            }
            open--;
        }

        int gives(int a, int b, int c) {
            int top = 0;
            for (int i = 0; i < code.size; i++) {
                int word = code.at[i];
                if (word < SIGN && top < stack.length) {
                    stack[top] = word < NAME ? word : named(word - NAME, a, b, c);
                    top++;
                } else if (word == SIGN + '!' && top > 0) {
                    stack[top - 1] = stack[top - 1] == 0 ? 1 : 0;
                } else if (top > 1) {
                    top--;
                    stack[top - 1] = joined(word - SIGN, stack[top - 1], stack[top]);
                }
            }
            return Math.max(low, Math.min(high, stack[0]));
        }

        private static int named(int name, int a, int b, int c) {
            return name == 0 ? a : name == 1 ? b : c;
        }

        private static int joined(int sign, int a, int b) {
            switch (sign) {
                case '|': return a != 0 || b != 0 ? 1 : 0;
                case '&': return a != 0 && b != 0 ? 1 : 0;
                case '<': return a < b ? 1 : 0;
                case '=': return a == b ? 1 : 0;
                case '>': return a > b ? 1 : 0;
                case '+': return a + b;
                case '-': return a - b;
                case '*': return a * b;
                case '/': return b == 0 ? 0 : a / b;
                default: return b == 0 ? 0 : a % b;
            }
        }

        /** As gives; kept in mind, since what would be asks for the same few over and over. */
        int cooling(int held, int both, int dayOfSeven) {
            int i = (dayOfSeven * TALKED + both) * HELD + held;
            if (code.size <= SHORT || i < 0 || i >= ASKED) {
                return gives(held, both, dayOfSeven);
            }
            if (known == null) {
                known = new byte[ASKED];
            }
            // 0 means not known yet, so what is kept is at least 1.
            if (known[i] == 0) {
                known[i] = (byte) (gives(held, both, dayOfSeven) - low + 1);
            }
            return known[i] + low - 1;
        }
    }

    /** PEOPLE, TREES, the FENCE at one time: as they are, as one thinks of them, or as an IMAGE. */
    private static final class World {
        final Text cools;
        final Text woods;
        final int[] holds = new int[CELLS];
        final int[] talk = new int[PEOPLE];
        final Tree[] trees = new Tree[TREES];
        int treeCount = 0;
        int day = 0;
        int fence = MOST_PLACE;
        int harm = 0;
        int wood = 0;
        int z = 1;
        /** The TREES that fell since this was last cleared, in their order. */
        final Row fell = new Row(TREES);
        /** How often each PLACE was fallen on in thought. */
        final int[] hits = new int[MOST_PLACE + 1];
        /** The pairs that a DAY cools. */
        private final Row pairs = new Row(CELLS);

        World(Text cools, Text woods) {
            this.cools = cools;
            this.woods = woods;
            for (int i = 0; i < TREES; i++) {
                trees[i] = new Tree(0, i);
            }
            for (int i = 0; i < CELLS; i++) {
                if (i / PEOPLE != i % PEOPLE) {
                    holds[i] = 20;
                    pairs.add(i);
                }
            }
        }

        void takeFrom(World other) {
            System.arraycopy(other.holds, 0, holds, 0, CELLS);
            System.arraycopy(other.talk, 0, talk, 0, PEOPLE);
            for (int i = 0; i < TREES; i++) {
                Tree model = other.trees[i];
                if (trees[i].kind != model.kind) {
                    trees[i] = newTree(model.kind, i);
                }
                trees[i].takeFrom(model);
            }
            treeCount = other.treeCount;
            day = other.day;
            fence = other.fence;
            harm = other.harm;
            wood = other.wood;
            z = other.z;
        }

        /** Begins a thought; only pairs whose names a STANDING TREE bears can matter in it. */
        void imagine(World real) {
            takeFrom(real);
            fell.clear();
            Arrays.fill(hits, 0);
            pairs.clear();
            long seen = 0;
            for (int i = 0; i < treeCount; i++) {
                Tree tree = trees[i];
                int there = cell(tree.one, tree.other);
                if (tree.standing && (seen >> there & 1) == 0) {
                    int back = cell(tree.other, tree.one);
                    pairs.add(there);
                    pairs.add(back);
                    seen |= 1L << there | 1L << back;
                }
            }
        }

        void talkAbout(int people, int v) {
            for (int i = 0; i < PEOPLE; i++) {
                if ((people >> i & 1) == 1) {
                    talk[i] = v;
                }
            }
        }

        void holdFast(int person) {
            for (int i = 0; i < PEOPLE; i++) {
                if (areTwo(person, i)) {
                    holds[cell(person, i)] = MOST_HOLD;
                    holds[cell(i, person)] = MOST_HOLD;
                }
            }
        }

        int setOfTrees(boolean standing) {
            int set = 0;
            for (int i = 0; i < treeCount; i++) {
                if (trees[i].standing == standing) {
                    set |= 1 << i;
                }
            }
            return set;
        }

        int sumOfHolds() {
            int sum = 0;
            for (int i = 0; i < CELLS; i++) {
                sum += holds[i];
            }
            return sum;
        }

        void drawTalk() {
            z = z * 1103515245 + 12345;
            int draw = z >>> 8;
            talk[draw % PEOPLE] = draw / 8 % 10;
        }

        /** Passes n DAYS, or fewer, if nothing of a set of TREES is left that could fall. */
        void passUntilDown(int set, int n) {
            for (int i = 0; i < n && (setOfTrees(true) & set) != 0; i++) {
                passDay();
            }
        }

        void passDay() {
            cool();
            for (int i = 0; i < treeCount; i++) {
                Tree tree = trees[i];
                if (tree.standing) {
                    tree.height = Math.min(tree.height + tree.grows(day), MOST_HEIGHT);
                }
            }
            for (int i = 0; i < treeCount; i++) {
                Tree tree = trees[i];
                if (tree.standing && isOver(tree)) {
                    fall(tree, 1);
                }
            }
            day++;
        }

        private void cool() {
            int dayOfSeven = day % 7;
            for (int i = 0; i < pairs.size; i++) {
                int pair = pairs.at[i];
                int both = talk[pair / PEOPLE] + talk[pair % PEOPLE];
                holds[pair] = clamp(holds[pair] + cools.cooling(holds[pair], both, dayOfSeven), 0, MOST_HOLD);
            }
        }

        private boolean isOver(Tree tree) {
            int limit = tree.limit(day);
            return holds[cell(tree.one, tree.other)] <= limit && holds[cell(tree.other, tree.one)] <= limit;
        }

        /** Each fall takes one that stands, so that no more than all TREES are open at once. */
        private void fall(Tree tree, int depth) {
            tree.standing = false;
            fell.add(tree.number);
            wood = Math.min(wood + woods.gives(tree.height, tree.m, tree.place), MOST_WOOD);
            int last = Math.min(tree.place + tree.reaches(), MOST_PLACE);
            for (int place = tree.place + 1; place <= last; place++) {
                hits[place]++;
            }
            if (fence > tree.place && fence <= last) {
                harm = Math.min(harm + 1, MOST_HARM);
            }
            for (int i = 0; i < treeCount && depth < TREES; i++) {
                Tree next = trees[i];
                boolean there = next.place > tree.place && next.place <= last;
                if (next.standing && there && next.height < tree.height) {
                    fall(next, depth + 1);
                }
            }
        }
    }

    /** A TREE, of the KIND above all others. */
    private static class Tree {
        final int kind;
        final int number;
        int m = 0;
        int one = 0;
        int other = 1;
        int place = 0;
        int height = 0;
        boolean standing = true;

        Tree(int kind, int number) {
            this.kind = kind;
            this.number = number;
        }

        final void takeFrom(Tree model) {
            m = model.m;
            one = model.one;
            other = model.other;
            place = model.place;
            height = model.height;
            standing = model.standing;
        }

        int limit(int day) {
            return 0;
        }

        int grows(int day) {
            return 0;
        }

        int reaches() {
            return height / 20;
        }

        int creaks(int x, Row begun) {
            begun.add(10);
            return x + number;
        }

        int stands(int x, Row begun) {
            begun.add(11);
            return creaks(x, begun) * 2;
        }

        int leans(int x, Row begun) {
            begun.add(12);
            return x - m;
        }

        int tells(int x, Row begun) {
            begun.add(13);
            return stands(x, begun) ^ leans(x, begun);
        }
    }

    private static class Beech extends Tree {
        Beech(int kind, int number) {
            super(kind, number);
        }

        @Override
        int limit(int day) {
            return super.limit(day) + m;
        }

        @Override
        int grows(int day) {
            return day % 3 == 0 ? 1 : 0;
        }

        @Override
        int creaks(int x, Row begun) {
            begun.add(20);
            return super.creaks(x, begun) * 3;
        }
    }

    private static class Oak extends Tree {
        Oak(int kind, int number) {
            super(kind, number);
        }

        @Override
        int limit(int day) {
            return m / 2;
        }

        @Override
        int stands(int x, Row begun) {
            begun.add(30);
            return super.stands(x, begun) - leans(1, begun);
        }
    }

    private static class Sapling extends Tree {
        Sapling(int kind, int number) {
            super(kind, number);
        }

        @Override
        int limit(int day) {
            return 5;
        }

        @Override
        int grows(int day) {
            return 1;
        }

        @Override
        int leans(int x, Row begun) {
            begun.add(40);
            return -super.leans(x, begun);
        }
    }

    private static final class Wedged extends Beech {
        Wedged(int kind, int number) {
            super(kind, number);
        }

        @Override
        int limit(int day) {
            return day % 2 == 0 ? super.limit(day) : 0;
        }

        @Override
        int tells(int x, Row begun) {
            begun.add(50);
            return super.tells(x, begun) - creaks(2, begun);
        }
    }

    private static final class Hollow extends Oak {
        Hollow(int kind, int number) {
            super(kind, number);
        }

        @Override
        int limit(int day) {
            return super.limit(day) + 20;
        }

        @Override
        int reaches() {
            return 0;
        }

        @Override
        int stands(int x, Row begun) {
            begun.add(60);
            return super.stands(x + 1, begun);
        }
    }

    private static final class Hill extends Sapling {
        Hill(int kind, int number) {
            super(kind, number);
        }

        @Override
        int limit(int day) {
            return super.limit(day) + height / 10;
        }

        @Override
        int grows(int day) {
            return super.grows(day) * 2;
        }

        @Override
        int leans(int x, Row begun) {
            begun.add(70);
            return super.leans(x, begun) ^ number;
        }

        @Override
        int tells(int x, Row begun) {
            begun.add(71);
            return stands(x, begun) - super.tells(x, begun);
        }
    }
}
