/** Promises 29 to 42: each edge of draws' z, voices, SHEETS, IMAGES and what is told, from both sides. */
public final class EdgesOfSheetsTest extends Due {
    private static final int[] FARTHEST = {0, 1, -1, 2, 1000, MIN, MIN + 1, MAX, MAX - 1, 1 << 30, -(1 << 30), 715827883};

    public static void main(String[] args) {
        seed();
        voiceArguments();
        voicesGoRound();
        traces();
        sheetArguments();
        sheetRenewed();
        putArguments();
        putLowestBits();
        moveErrors();
        moveEdges();
        moveAsTheyAllWere();
        talks();
        judge();
        imageCounts();
        restoreDays();
        restoreWhatIsFullOrEmpty();
        restoreEachPart();
        tell();
        checkEmptyAndFull();
        checkEachPlace();
        countEdges();
        countExtremes();
        told();
        end();
    }

    private static void seed() {
        promise = 29;
        FelledByNames x = new FelledByNames();
        int was = 1;
        for (int v : new int[] {0, 1, -1, MIN, MAX, LOW, BEYOND, NONE, STATE, FULL, KIND, 5}) {
            due(call("seed", v), x.seed(v), was);
            due("count(10)", x.count(10), v);
            was = v;
        }
        for (int k = 1; k <= 5; k++) {
            due("any number is no ERROR", x.told(k), 0);
        }
        x.seed(MAX);
        x.loose(1);
        due("z goes round", x.count(10), MAX * 1103515245 + 12345);
        x.seed(MIN);
        x.loose(1);
        due("z goes round", x.count(10), MIN * 1103515245 + 12345);
    }

    private static void voiceArguments() {
        promise = 30;
        FelledByNames x = new FelledByNames();
        x.tree(3, 1, 0, 0);
        x.tree(4, 1, 0, 0);
        for (int tree : new int[] {MIN, -1, 0, 1, 2, 8, MAX}) {
            for (int act : new int[] {MIN, -1, 0, 1, 2, 3, 4, MAX}) {
                boolean good = in(tree, 0, 1) && in(act, 0, 3);
                x.voice(1, 3, 0);
                int got = x.voice(tree, act, 10);
                int m = 3 + tree;
                int[] want = {10 + tree, 20 + 2 * tree, 10 - m, 20 + 2 * tree ^ 10 - m};
                due(call("voice", tree, act, 10), got, good ? want[act] : BEYOND);
                due("BODIES", x.count(9), good ? new int[] {1, 2, 1, 4}[act] : 4);
                due("the first BODY", x.trace(0), good ? 10 + act : 13);
            }
        }
        due("one that isn't STANDING", x.change(1, 2, 0), 1);
        due("one that isn't STANDING", x.voice(1, 0, 5), 6);
        due("any number", x.voice(0, 0, BEYOND), BEYOND);
        due("any number", x.voice(0, 0, KIND), KIND);
        due("any number is no ERROR", x.told(5), 0);
        due("any number is no ERROR", x.told(1), 7 * 8 - 2 * 4);
    }

    private static int creaks(int kind, int n, int x) {
        return kind == 1 || kind == 4 ? (x + n) * 3 : x + n;
    }

    private static int leans(int kind, int n, int m, int x) {
        return kind == 3 ? m - x : kind == 6 ? m - x ^ n : x - m;
    }

    private static int stands(int kind, int n, int m, int x) {
        int more = kind == 5 ? 1 : 0;
        int less = kind == 2 || kind == 5 ? 1 - m : 0;
        return creaks(kind, n, x + more) * 2 - less;
    }

    private static int tells(int kind, int n, int m, int x) {
        int both = stands(kind, n, m, x) ^ leans(kind, n, m, x);
        return kind == 4 ? both - (2 + n) * 3 : kind == 6 ? stands(kind, n, m, x) - both : both;
    }

    private static void voicesGoRound() {
        promise = 30;
        for (int kind = 0; kind < 7; kind++) {
            for (int m : new int[] {0, 1, 9}) {
                FelledByNames x = new FelledByNames();
                for (int n = 0; n < 8; n++) {
                    x.tree(kind * 10 + m, 1, 0, 0);
                }
                for (int n : new int[] {0, 1, 7}) {
                    for (int v : FARTHEST) {
                        String of = " of KIND " + kind + ", m " + m + ", number " + n + ", x " + v;
                        due("creaks" + of, x.voice(n, 0, v), creaks(kind, n, v));
                        due("stands" + of, x.voice(n, 1, v), stands(kind, n, m, v));
                        due("leans" + of, x.voice(n, 2, v), leans(kind, n, m, v));
                        due("tells" + of, x.voice(n, 3, v), tells(kind, n, m, v));
                    }
                }
            }
        }
    }

    private static void traces() {
        promise = 31;
        int[][][] bodies = {
            {{10}, {11, 10}, {12}, {13, 11, 10, 12}},
            {{20, 10}, {11, 20, 10}, {12}, {13, 11, 20, 10, 12}},
            {{10}, {30, 11, 10, 12}, {12}, {13, 30, 11, 10, 12, 12}},
            {{10}, {11, 10}, {40, 12}, {13, 11, 10, 40, 12}},
            {{20, 10}, {11, 20, 10}, {12}, {50, 13, 11, 20, 10, 12, 20, 10}},
            {{10}, {60, 30, 11, 10, 12}, {12}, {13, 60, 30, 11, 10, 12, 12}},
            {{10}, {11, 10}, {70, 40, 12}, {71, 11, 10, 13, 11, 10, 70, 40, 12}}};
        for (int kind = 0; kind < 7; kind++) {
            FelledByNames x = new FelledByNames();
            due("ahead of any voice", x.trace(0), NONE);
            x.tree(kind * 10, 1, 0, 0);
            for (int act : new int[] {3, 0, 1, 2, 3}) {
                x.voice(0, act, 1);
                int[] want = bodies[kind][act];
                due("count(9)", x.count(9), want.length);
                for (int i : new int[] {MIN, -1, 0, 1, 2, 3, 4, 5, 6, 7, 8, 9, 39, 40, MAX}) {
                    due("KIND " + kind + ", act " + act + ", " + call("trace", i), x.trace(i),
                        in(i, 0, want.length - 1) ? want[i] : NONE);
                }
            }
        }
    }

    private static void sheetArguments() {
        promise = 32;
        for (int sheet : new int[] {MIN, -1, 0, 1, 2, 3, 4, MAX}) {
            for (int bits : new int[] {MIN, -8, -1, 0, 1, 7, 8, 9, 15, 16, 17, 24, 31, 32, 33, 64, MAX}) {
                FelledByNames x = new FelledByNames();
                for (int n : around(0, 40)) {
                    boolean known = in(sheet, 0, 3) && (bits == 0 || bits == 8 || bits == 16 || bits == 32);
                    int want = !known ? BEYOND : bits == 0 ? 1 : n < 0 ? STATE : n > 40 ? BEYOND : 1;
                    due(call("sheet", sheet, bits, n), x.sheet(sheet, bits, n), want);
                }
                boolean made = in(sheet, 0, 3) && (bits == 8 || bits == 16 || bits == 32);
                for (int i = 0; i < 4; i++) {
                    due(call("put", i, 39, 0), x.put(i, 39, 0), made && i == sheet ? 1 : NONE);
                    due(call("put", i, 40, 0), x.put(i, 40, 0), made && i == sheet ? BEYOND : NONE);
                }
            }
        }
    }

    private static void sheetRenewed() {
        promise = 32;
        FelledByNames x = new FelledByNames();
        for (int size : new int[] {40, 6, 1, 0, 3}) {
            for (int bits = 8; bits <= 32; bits *= 2) {
                fill(x, 1, 32, 9, 9, 9, 9, 9, 9, 9);
                x.talks(1);
                due("sheet", x.sheet(1, bits, size), 1);
                due("all 0", x.talks(1), Math.min(6, size));
                for (int i = 0; i < 6; i++) {
                    due("all 0", x.talkOf(i), i < size ? 0 : 9);
                }
                due("the last number", x.put(1, size - 1, 1), size == 0 ? BEYOND : 1);
                due("none behind it", x.put(1, size, 1), BEYOND);
            }
        }
        fill(x, 1, 8, 5);
        due("it stays, refused", x.sheet(1, 16, 41), BEYOND);
        due("it stays, refused", x.sheet(1, 16, -1), STATE);
        due("it stays, refused", x.sheet(1, 5, 3), BEYOND);
        due("it stays", x.talks(1), 1);
        due("it stays", x.talkOf(0), 5);
        due("missing", x.sheet(1, 0, MIN), 1);
        due("missing", x.talks(1), NONE);
        due("missing once more", x.sheet(1, 0, MAX), 1);
        due("missing once more", x.judge(1), NONE);
    }

    private static void putArguments() {
        promise = 33;
        for (int size : new int[] {0, 1, 39, 40}) {
            FelledByNames x = new FelledByNames();
            x.sheet(2, 16, size);
            for (int sheet : new int[] {MIN, -1, 0, 1, 2, 3, 4, MAX}) {
                for (int i : new int[] {MIN, -1, 0, size - 1, size, 40, MAX}) {
                    int want = !in(sheet, 0, 3) ? BEYOND : sheet != 2 ? NONE : in(i, 0, size - 1) ? 1 : BEYOND;
                    due(call("put", sheet, i, 1), x.put(sheet, i, 1), want);
                }
            }
        }
    }

    private static void putLowestBits() {
        promise = 33;
        FelledByNames x = new FelledByNames();
        x.tree(0, 1, 0, 99);
        int[] values = {99, 99 + 256, 99 - 256, 99 + 65536, 99 - 65536, 99 + (1 << 24), 99 + MIN, 99 + 128, 99 + 32768, 98, 100};
        int[] ofEight = {-1, -1, -1, -1, -1, -1, -1, 0, -1, 0, 0};
        int[] ofSixteen = {-1, 0, 0, -1, -1, -1, -1, 0, 0, 0, 0};
        for (int i = 0; i < values.length; i++) {
            for (int bits = 8; bits <= 32; bits *= 2) {
                fill(x, 0, bits, values[i]);
                int want = bits == 8 ? ofEight[i] : bits == 16 ? ofSixteen[i] : i == 0 ? -1 : 0;
                due(values[i] + " of " + bits + " bits", x.judge(0), want);
            }
        }
        fill(x, 0, 8, 255, 9);
        due("255 of 8 bits", x.talks(0), 0);
        fill(x, 0, 16, 65535, 9);
        due("65535 of 16 bits", x.talks(0), 0);
        fill(x, 0, 32, MAX, 9);
        due("the greatest of 32 bits", x.talks(0), 0);
        fill(x, 0, 32, MIN, 9);
        due("the least of 32 bits", x.talks(0), 0);
        fill(x, 0, 8, 1, 2, 3);
        x.put(0, 1, 7);
        due("others stay", x.talks(0), 3);
        due("others stay", x.talkOf(0), 1);
        due("what it becomes", x.talkOf(1), 7);
        due("others stay", x.talkOf(2), 3);
    }

    private static void moveErrors() {
        promise = 34;
        FelledByNames x = new FelledByNames();
        x.sheet(0, 8, 3);
        x.sheet(1, 16, 3);
        x.sheet(2, 8, 3);
        for (int sheet : new int[] {MIN, -1, 0, 1, 2, 3, 4, MAX}) {
            for (int other : new int[] {MIN, -1, 0, 1, 2, 3, 4, MAX}) {
                boolean known = in(sheet, 0, 3) && in(other, 0, 3);
                boolean unlike = sheet % 2 != other % 2;
                int first = !known ? BEYOND : sheet == 3 || other == 3 ? NONE : unlike ? KIND : 0;
                due(call("move", sheet, 0, other, 0, 3), x.move(sheet, 0, other, 0, 3), first == 0 ? 3 : first);
                due(call("move", sheet, 0, other, 0, 4), x.move(sheet, 0, other, 0, 4), first == 0 ? BEYOND : first);
                due(call("move", sheet, -1, other, 9, MIN), x.move(sheet, -1, other, 9, MIN), first == 0 ? BEYOND : first);
            }
        }
        for (int bits = 8; bits <= 32; bits *= 2) {
            for (int others = 8; others <= 32; others *= 2) {
                x.sheet(0, bits, 2);
                x.sheet(1, others, 2);
                due(bits + " bits to " + others, x.move(0, 0, 1, 0, 2), bits == others ? 2 : KIND);
                due(bits + " bits to " + others + ", none", x.move(0, 0, 1, 0, 0), bits == others ? 0 : KIND);
            }
        }
    }

    private static void moveEdges() {
        promise = 34;
        int[] edges = {MIN, -1, 0, 1, 2, 3, 4, 5, 6, 39, 40, 41, MAX - 1, MAX};
        for (int i : edges) {
            for (int j : edges) {
                FelledByNames x = new FelledByNames();
                x.sheet(0, 8, 5);
                x.sheet(1, 8, 3);
                x.sheet(2, 8, 40);
                for (int n : edges) {
                    boolean good = i >= 0 && j >= 0 && n >= 0 && (long) i + n <= 5 && (long) j + n <= 3;
                    due(call("move", 0, i, 1, j, n), x.move(0, i, 1, j, n), good ? n : BEYOND);
                    boolean wide = i >= 0 && j >= 0 && n >= 0 && (long) i + n <= 40 && (long) j + n <= 40;
                    due(call("move", 2, i, 2, j, n), x.move(2, i, 2, j, n), wide ? n : BEYOND);
                }
            }
        }
        FelledByNames x = new FelledByNames();
        x.sheet(0, 8, 0);
        due("of no numbers", x.move(0, 0, 0, 0, 0), 0);
        due("of no numbers", x.move(0, 0, 0, 0, 1), BEYOND);
    }

    private static void moveAsTheyAllWere() {
        promise = 34;
        for (int i = 0; i < 6; i++) {
            for (int j = 0; j < 6; j++) {
                int n = 6 - Math.max(i, j);
                for (int other = 0; other < 2; other++) {
                    FelledByNames x = new FelledByNames();
                    fill(x, 0, 16, 1, 2, 3, 4, 5, 6);
                    fill(x, 1, 16, 0, 0, 0, 0, 0, 0);
                    due("move", x.move(0, i, other, j, n), n);
                    x.talks(other);
                    for (int k = 0; k < 6; k++) {
                        int stays = other == 0 ? k + 1 : 0;
                        due("number " + k + ", moved from " + i + " to " + j, x.talkOf(k), in(k, j, j + n - 1) ? k - j + i + 1 : stays);
                    }
                    x.talks(0);
                    if (other == 1) {
                        due("those moved stay where they were", x.talkOf(i), i + 1);
                    }
                }
            }
        }
    }

    private static void talks() {
        promise = 35;
        for (int sheet : new int[] {MIN, -1, 0, 1, 2, 3, 4, MAX}) {
            FelledByNames x = new FelledByNames();
            due("missing", x.talks(sheet), in(sheet, 0, 3) ? NONE : BEYOND);
            x.sheet(sheet, 8, 2);
            due(call("talks", sheet), x.talks(sheet), in(sheet, 0, 3) ? 2 : BEYOND);
        }
        for (int size : new int[] {0, 1, 5, 6, 7, 40}) {
            FelledByNames x = new FelledByNames();
            x.sheet(0, 32, size);
            for (int i = 0; i < size; i++) {
                x.put(0, i, 9 - i % 10);
            }
            due("numbers " + size, x.talks(0), Math.min(6, size));
            for (int i = 0; i < 6; i++) {
                due(call("talkOf", i), x.talkOf(i), i < size ? 9 - i : 0);
            }
        }
        for (int wrong = 0; wrong < 7; wrong++) {
            for (int v : new int[] {10, -1, 255, 256, MIN, MAX}) {
                FelledByNames x = new FelledByNames();
                talkAll(x, 7);
                fill(x, 0, 32, 0, 9, 0, 9, 0, 9, 0);
                x.put(0, wrong, v);
                due("number " + wrong + " is " + v, x.talks(0), Math.min(6, wrong));
                for (int i = 0; i < 6; i++) {
                    due(call("talkOf", i), x.talkOf(i), i < wrong ? i % 2 * 9 : 7);
                }
                for (int k = 1; k <= 5; k++) {
                    due("no ERROR then", x.told(k), 0);
                }
            }
        }
    }

    private static void judge() {
        promise = 36;
        for (int sheet : new int[] {MIN, -1, 0, 1, 2, 3, 4, MAX}) {
            FelledByNames x = new FelledByNames();
            due("missing", x.judge(sheet), in(sheet, 0, 3) ? NONE : BEYOND);
            x.sheet(sheet, 8, 0);
            due(call("judge", sheet), x.judge(sheet), in(sheet, 0, 3) ? -1 : BEYOND);
        }
        for (int trees = 0; trees <= 8; trees++) {
            FelledByNames x = new FelledByNames();
            for (int i = 0; i < trees; i++) {
                x.tree(0, 1, 0, i % 2 * 99);
            }
            for (int size : new int[] {0, 1, 7, 8, 9, 40}) {
                x.sheet(0, 8, size);
                for (int i = 0; i < Math.min(size, trees); i++) {
                    x.put(0, i, i % 2 * 99);
                }
                due("TREES " + trees + ", numbers " + size, x.judge(0), size == trees ? -1 : Math.min(size, trees));
            }
        }
        FelledByNames x = new FelledByNames();
        for (int i = 0; i < 8; i++) {
            x.tree(0, 1, 0, 50 + i);
        }
        for (int wrong = 0; wrong < 8; wrong++) {
            for (int v : new int[] {-1, 1, 256, MIN}) {
                fill(x, 0, 32, 50, 51, 52, 53, 54, 55, 56, 57);
                x.put(0, 7, wrong == 7 ? 0 : 58);
                x.put(0, wrong, 50 + wrong + v);
                due("number " + wrong + " and the last are wrong", x.judge(0), wrong);
            }
        }
        fill(x, 0, 8, 50, 51, 52, 53, 54, 55, 56, 57);
        x.change(3, 2, 0);
        due("one that isn't STANDING counts as well", x.judge(0), -1);
    }

    private static void imageCounts() {
        promise = 37;
        FelledByNames x = new FelledByNames();
        promise = 38;
        due("there is none", x.restore(), NONE);
        promise = 37;
        for (int i = 1; i <= 20; i++) {
            due("how often", x.image(), i);
            x.days(1);
            promise = 38;
            due("DAY of the latest IMAGE", x.restore(), i - 1);
            promise = 37;
            x.days(1);
        }
        due("told(2)", x.told(2), 1);
        x.restore();
        due("how often stays", x.image(), 21);
    }

    private static void restoreDays() {
        promise = 38;
        FelledByNames x = aged(9999);
        x.image();
        due("DAY", x.restore(), 9999);
        due("days(1)", x.days(1), STATE);
        FelledByNames y = new FelledByNames();
        y.image();
        for (int left = 9999; left > 0; left -= 60) {
            y.days(Math.min(60, left));
        }
        due("count(1)", y.count(1), 9999);
        due("DAY", y.restore(), 0);
        due("days(60)", y.days(60), 0);
        due("the IMAGE stays", y.restore(), 0);
    }

    private static void restoreWhatIsFullOrEmpty() {
        promise = 38;
        FelledByNames x = new FelledByNames();
        x.image();
        crowd(x);
        due("an IMAGE of nothing", x.restore(), 0);
        int[] empty = {0, 0, 15, 0, 0, 0, 600, 0, 0};
        for (int i = 0; i < empty.length; i++) {
            due(call("count", i), x.count(i), empty[i]);
        }
        due("no TREES", x.ofTree(0, 0), BEYOND);
        due("no TEXT of COOLS", x.law(0, 5, 6, 7), -6);
        due("no TEXT of WOOD", x.law(1, 5, 6, 7), 5);
        crowd(x);
        due("the second IMAGE", x.image(), 2);
        x.text(0);
        x.check();
        for (int i = 0; i < 8; i++) {
            x.become(i, 0);
            x.change(i, 2, 0);
        }
        due("an IMAGE of what is full", x.restore(), 0);
        due("8 TREES", x.count(5), 255);
        due("8 TREES", x.tree(0, 1, 0, 0), FULL);
        due("50 bytes", x.count(7), 50);
        due("50 bytes", x.feed(0, 1), FULL);
        due("20 wait", x.count(8), 20);
        due("20 wait", x.tell(0), FULL);
        due("m", x.ofTree(7, 1), 7);
        due("those that wait, as they were", x.check(), 20);
        due("THE TAPE as it was", x.text(0), 1);
        due("THE TAPE as it was", x.law(0, 0, 0, 0), 9);
        x.restore();
        due("the IMAGE stays", x.count(7), 50);
        due("the IMAGE stays", x.count(8), 20);
        due("the IMAGE stays", x.law(0, 5, 0, 0), 5);
    }

    /** As many TREES, bytes and numbers that wait as there can be; the last number alone isn't so. */
    private static void crowd(FelledByNames x) {
        for (int km : new int[] {60, 51, 42, 33, 24, 15, 6, 67}) {
            x.tree(km, 1, 0, 0);
        }
        read(x, 0, "h");
        read(x, 1, "m");
        for (int i = 0; i < 24; i++) {
            x.feed('0' | '+' << 8, 2);
        }
        x.feed('2' | '9' << 8, 2);
        for (int i = 0; i < 20; i++) {
            x.tell(i == 19 ? 7 : 8);
        }
        x.set(0, 0);
        x.set(1, 999);
        x.set(2, 99999);
    }

    /** Each part by itself: what it was is there again, and stays in the IMAGE when it is changed once more. */
    private static void restoreEachPart() {
        promise = 38;
        FelledByNames x = new FelledByNames();
        x.tree(12, 34, 5, 60);
        x.hold(5, 4, 77);
        x.talk(5, 6);
        x.set(0, 7);
        x.set(1, 8);
        x.set(2, 9);
        x.seed(-5);
        feedAll(x, "h");
        x.tell(1);
        x.voice(0, 3, 1);
        fill(x, 0, 8, 1, 2);
        x.image();
        for (int again = 0; again < 2; again++) {
            x.become(0, 65);
            x.change(0, 0, 6);
            x.change(0, 1, 61);
            x.change(0, 2, 0);
            x.tree(0, 1, 0, 0);
            x.hold(5, 4, 78);
            x.talk(5, 7);
            x.set(0, 1);
            x.set(1, 1);
            x.set(2, 1);
            x.seed(4);
            x.feed('+', 1);
            x.tell(1);
            x.voice(0, 0, 1);
            fill(x, 0, 8, 4 + again);
            x.days(1);
            due("DAY", x.restore(), 0);
            int[] of = {1, 2, 34, 5, 60, 1, 2, 3};
            for (int what = 0; what < 8; what++) {
                due(call("ofTree", 0, what), x.ofTree(0, what), of[what]);
            }
            int[] counts = {1, 0, 7, 8, 9, 1, 657, 1, 1, 1, -5};
            for (int what = 0; what < counts.length; what++) {
                due(call("count", what), x.count(what), counts[what]);
            }
            due("holds(5, 4)", x.holds(5, 4), 77);
            due("talkOf(5)", x.talkOf(5), 6);
            due("THE TRACE stays", x.trace(0), 10);
            due("SHEETS stay", x.talks(0), 1);
            due("SHEETS stay", x.talkOf(0), 4 + again);
            due("the second TREE is gone", x.change(1, 0, 0), BEYOND);
            due("what told() tells stays", x.told(1), again + 1);
        }
        x.restore();
        due("THE TAPE", x.text(0), 1);
        due("THE TAPE", x.law(0, 4, 0, 0), 4);
        due("those that wait", x.check(), 0);
    }

    private static void tell() {
        promise = 39;
        FelledByNames x = new FelledByNames();
        int[] any = {MIN, -1, 0, 1, MAX, BEYOND, FULL};
        for (int i = 1; i <= 20; i++) {
            due("tell", x.tell(any[i % any.length]), i);
            due("count(8)", x.count(8), i);
        }
        due("20 wait", x.tell(0), FULL);
        due("20 wait", x.tell(MIN), FULL);
        due("count(8)", x.count(8), 20);
        due("told(4)", x.told(4), 2);
        x.check();
        due("none wait", x.count(8), 0);
        due("the first again", x.tell(0), 1);
    }

    private static void checkEmptyAndFull() {
        promise = 40;
        FelledByNames x = new FelledByNames();
        due("none wait", x.check(), 0);
        for (int i = 0; i < 20; i++) {
            x.tell(0);
        }
        due("20 wait, no TREES", x.check(), 0);
        due("none do then", x.count(8), 0);
        x.tell(1);
        due("no TREES, 1 told", x.check(), 1);
        due("none do then", x.count(8), 0);
        x.tell(-1);
        due("no TREES, -1 told", x.check(), 1);
        for (int i = 0; i < 8; i++) {
            x.tree(0, 1, 0, 0);
        }
        due("none wait", x.check(), 0);
        for (int i = 0; i < 20; i++) {
            x.tell(8);
        }
        due("20 wait, 8 TREES", x.check(), 0);
        due("only thought", x.count(1), 0);
        due("told(4)", x.told(4), 0);
    }

    private static void checkEachPlace() {
        promise = 40;
        for (int wrong = 0; wrong <= 20; wrong++) {
            for (int by : new int[] {-1, 1, MIN, 256}) {
                FelledByNames x = new FelledByNames();
                read(x, 0, "0-1");
                int[] pairs = {1, 23, 45, 12, 34, 50, 20, 31};
                for (int i = 0; i < 8; i++) {
                    x.tree(0, pairs[i], 0, 0);
                    holdBoth(x, pairs[i] / 10, pairs[i] % 10, 2 * i + 2);
                }
                x.change(7, 2, 0);
                for (int i = 0; i < 20; i++) {
                    int standing = Math.max(0, 7 - (i + 1) / 2);
                    x.tell(i == wrong || i == 19 && wrong < 19 ? standing + by : standing);
                }
                due("number " + wrong + " isn't so", x.check(), wrong == 20 ? 0 : wrong + 1);
                due("none do then", x.count(8), 0);
                due("none do then", x.check(), 0);
                due("only thought", x.count(5), 127);
                due("only thought", x.count(1), 0);
            }
        }
    }

    private static void countEdges() {
        promise = 41;
        FelledByNames x = new FelledByNames();
        for (int what : new int[] {MIN, -1, 11, 12, MAX}) {
            due(call("count", what), x.count(what), BEYOND);
        }
        due("told(1)", x.told(1), 5);
        x.seed(BEYOND);
        due("any number", x.count(10), BEYOND);
        due("any number is no ERROR", x.told(1), 5);
    }

    private static void countExtremes() {
        promise = 41;
        FelledByNames x = aged(9999);
        for (int i = 0; i < 36; i++) {
            x.hold(i / 6, i % 6, 99);
        }
        due("all HOLD 99", x.count(6), 30 * 99);
        for (int i = 0; i < 8; i++) {
            due("STANDING", x.count(5), (1 << i) - 1);
            x.tree(60, 1, 0, 0);
        }
        x.set(0, 0);
        x.set(1, 999);
        x.set(2, 99999);
        x.seed(MIN);
        x.voice(0, 3, 0);
        for (int i = 0; i < 20; i++) {
            x.tell(i);
        }
        for (int i = 0; i < 50; i++) {
            x.feed(0, 1);
        }
        int[] most = {8, 9999, 0, 999, 99999, 255, 2970, 50, 20, 9, MIN};
        for (int i = 0; i < most.length; i++) {
            due(call("count", i), x.count(i), most[i]);
        }
        for (int i = 7; i >= 0; i--) {
            x.change(i, 2, 0);
            due("STANDING", x.count(5), (1 << i) - 1);
        }
        due("TREES that aren't STANDING are TREES", x.count(0), 8);
        for (int i = 0; i < 36; i++) {
            x.hold(i / 6, i % 6, 0);
        }
        due("all HOLD 0", x.count(6), 0);
    }

    private static void told() {
        promise = 42;
        FelledByNames x = new FelledByNames();
        for (int k : new int[] {MIN, -1, 0, 1, 2, 3, 4, 5, 6, MAX}) {
            due(call("told", k), x.told(k), !in(k, 1, 5) ? BEYOND : k == 1 ? 3 : 0);
        }
        due("another k is counted, too", x.told(1), 5);
        x.tree(0, 1, 0, 0);
        int[] want = {0, 5, 0, 0, 0, 0};
        for (int i = 0; i < 20; i++) {
            x.tell(0);
        }
        int[] errors = {2, 4, 3, 5, 1, 1, 4, 2, 5, 3, 3, 3};
        for (int k : errors) {
            int got = k == 1 ? x.talkOf(6) : k == 2 ? x.trace(0) : k == 3 ? x.sheet(0, 8, -1) : k == 4 ? x.tell(0) : x.as(0, 1);
            due("ERROR LOW - " + k, got, LOW - k);
            want[k]++;
            for (int i = 1; i <= 5; i++) {
                due(call("told", i), x.told(i), want[i]);
            }
        }
    }
}
