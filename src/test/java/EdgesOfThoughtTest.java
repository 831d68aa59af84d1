/** Promises 17 to 28: each edge of what would be, from both sides. */
public final class EdgesOfThoughtTest extends Due {
    private static final int[] FAR = {MIN, -1, 0, 1, 30, 31, 59, 60, 61, MAX};
    private static final int[] PAIRS = {1, 23, 45, 12, 34, 50, 20, 31};

    public static void main(String[] args) {
        thenArguments();
        thenHeld();
        thenOfAllSorts();
        thenAtTheEdges();
        when();
        down();
        gossipArguments();
        gossipLeastAndMost();
        gossipOthersStay();
        aboutArguments();
        aboutFewest();
        aboutOthersStay();
        talkedArguments();
        talkedNumbers();
        talkedTalks();
        crash();
        keeperArguments();
        keeperWho();
        orderArguments();
        orderNumbers();
        timber();
        safeArguments();
        safePlaces();
        oddsArguments();
        oddsAll();
        kindsInThought();
        beyondTheLastDay();
        end();
    }

    /** Eight TREES, of which number i falls behind 7 * i + 1 DAYS; nothing falls on anything. */
    private static FelledByNames oneByOne() {
        FelledByNames x = new FelledByNames();
        read(x, 0, "0-1");
        for (int i = 0; i < 8; i++) {
            x.tree(0, PAIRS[i], 0, 10 + i);
            holdBoth(x, PAIRS[i] / 10, PAIRS[i] % 10, 7 * i + 1);
        }
        return x;
    }

    private static void thenArguments() {
        promise = 17;
        FelledByNames x = new FelledByNames();
        x.talk(0, 1);
        for (int n : FAR) {
            due(call("then", n, 0, 5), x.then(n, 0, 5), in(n, 0, 60) ? Math.max(0, 20 - n) : BEYOND);
            due(call("then", n, 4, 5), x.then(n, 4, 5), in(n, 0, 60) ? 20 : BEYOND);
        }
        for (int one : new int[] {MIN, -1, 0, 1, 5, 6, MAX}) {
            for (int other : new int[] {MIN, -1, 0, 1, 5, 6, MAX}) {
                boolean good = in(one, 0, 5) && in(other, 0, 5) && one != other;
                int want = one == 0 || other == 0 ? 13 : 20;
                due(call("then", 7, one, other), x.then(7, one, other), good ? want : BEYOND);
                due(call("then", 0, one, other), x.then(0, one, other), good ? 20 : BEYOND);
                due(call("then", 61, one, other), x.then(61, one, other), BEYOND);
            }
        }
        due("DAY stays", x.count(1), 0);
        due("HOLDS stay", x.count(6), 600);
    }

    private static void thenHeld() {
        promise = 17;
        FelledByNames x = new FelledByNames();
        read(x, 0, "d*3-9");
        x.hold(1, 4, 5);
        int[] ahead = {5, 0, 0, 0, 0, 3, 9, 18, 9, 3, 0, 0, 3, 9, 18};
        for (int n = 0; n < ahead.length; n++) {
            due(call("then", n, 1, 4), x.then(n, 1, 4), ahead[n]);
        }
        x.hold(4, 1, 97);
        int[] high = {97, 88, 82, 79, 79, 82, 88, 97};
        for (int n = 0; n < high.length; n++) {
            due(call("then", n, 4, 1), x.then(n, 4, 1), high[n]);
        }
        read(x, 0, "9");
        due("held at 99", x.then(60, 4, 1), 99);
        due("held at 99", x.then(1, 4, 1), 99);
        read(x, 0, "0-9");
        due("held at 0", x.then(60, 4, 1), 0);
        x.tree(0, 41, 0, 0);
        due("a TREE changes nothing of it", x.then(10, 4, 1), 7);
        x.days(60);
        due("what it was held at", x.holds(4, 1), 0);
    }

    /** A TEXT that is another one for each HOLDS, TALK and DAY, asked for over and over on one object. */
    private static void thenOfAllSorts() {
        promise = 17;
        FelledByNames x = new FelledByNames();
        read(x, 0, "(h*7+t*5+d*3)%19-9+(h<30)*3-(h>70)*3");
        int[] hold = new int[36];
        for (int i = 0; i < 36; i++) {
            hold[i] = i == 1 ? 0 : i == 6 ? 99 : i * 37 % 100;
            x.hold(i / 6, i % 6, hold[i]);
        }
        for (int round = 0; round < 10; round++) {
            int[] talk = new int[6];
            for (int i = 0; i < 6; i++) {
                talk[i] = round == 0 ? 9 : round == 1 ? 0 : (round + i * 2) % 10;
                x.talk(i, talk[i]);
            }
            for (int i = 0; i < 36; i++) {
                if (i / 6 != i % 6) {
                    int held = hold[i];
                    for (int day = 0; day < 60; day++) {
                        int gives = (held * 7 + (talk[i / 6] + talk[i % 6]) * 5 + day % 7 * 3) % 19 - 9;
                        gives += held < 30 ? 3 : held > 70 ? -3 : 0;
                        held = Math.max(0, Math.min(99, held + Math.max(-9, Math.min(9, gives))));
                    }
                    due(call("then", 60, i / 6, i % 6), x.then(60, i / 6, i % 6), held);
                }
            }
        }
    }

    /** The least and the most that one HOLDS, with each TALK about both together, on one object. */
    private static void thenAtTheEdges() {
        promise = 17;
        FelledByNames x = new FelledByNames();
        read(x, 0, "(h<50)*(t%5+1)-(h>49)*(t%7+1)");
        for (int both = 0; both <= 18; both++) {
            x.talk(0, both / 2);
            x.talk(1, both - both / 2);
            for (int held : new int[] {98, 99, 0, 1}) {
                x.hold(0, 1, held);
                int more = held < 50 ? both % 5 + 1 : -(both % 7 + 1);
                due("then, HOLDS " + held + ", TALK " + both, x.then(1, 0, 1), held + more);
            }
        }
    }

    private static void when() {
        promise = 18;
        FelledByNames x = oneByOne();
        holdBoth(x, 3, 1, 60);
        for (int tree : new int[] {MIN, -1, 0, 1, 6, 7, 8, MAX}) {
            int want = !in(tree, 0, 7) ? BEYOND : tree == 7 ? 60 : 7 * tree + 1;
            due(call("when", tree), x.when(tree), want);
        }
        holdBoth(x, 3, 1, 61);
        due("not by 60", x.when(7), NONE);
        holdBoth(x, 3, 1, 59);
        due("behind 59", x.when(7), 59);
        x.hold(3, 1, 61);
        due("not by 60 on one side", x.when(7), NONE);
        x.change(7, 2, 0);
        due("it isn't STANDING", x.when(7), 0);
        holdBoth(x, 0, 1, 0);
        due("not before a DAY went by", x.when(0), 1);
        x.days(1);
        due("it isn't STANDING", x.when(0), 0);
        due("a DAY went by", x.when(1), 7);
        due("told(2)", x.told(2), 2);
        FelledByNames y = new FelledByNames();
        y.tree(0, 23, 1, 5);
        y.tree(0, 1, 0, 20);
        y.talk(0, 2);
        due("by another one's fall", y.when(0), 10);
        y.change(0, 1, 20);
        due("not by it, being as high", y.when(0), NONE);
    }

    private static void down() {
        promise = 19;
        FelledByNames x = oneByOne();
        for (int n : FAR) {
            int set = 0;
            for (int i = 0; i < 8; i++) {
                set |= 7 * i + 1 <= n ? 1 << i : 0;
            }
            due(call("down", n), x.down(n), in(n, 0, 60) ? set : BEYOND);
        }
        for (int n = 0; n <= 60; n++) {
            due(call("down", n), x.down(n), n == 0 ? 0 : (2 << (n - 1) / 7 & 0x1ff) - 1 & 255);
        }
        x.change(5, 2, 0);
        due("down(0)", x.down(0), 0b100000);
        due("down(1)", x.down(1), 0b100001);
        due("down(60), all", x.down(60), 255);
        due("only thought", x.count(5), 0b11011111);
        due("only thought", x.count(1), 0);
        FelledByNames y = new FelledByNames();
        y.tree(0, 1, 0, 0);
        due("down(60), none", y.down(60), 0);
    }

    private static void gossipArguments() {
        promise = 20;
        FelledByNames x = new FelledByNames();
        x.tree(0, 1, 0, 0);
        x.tree(0, 45, 0, 0);
        for (int tree : new int[] {MIN, -1, 0, 1, 2, 8, MAX}) {
            for (int n : new int[] {MIN, -1, 0, 2, 3, 29, 30, 31, MAX}) {
                boolean good = in(tree, 0, 1) && in(n, 0, 30);
                int want = n < 3 ? NONE : n == 3 ? 4 : 1;
                due(call("gossip", tree, n), x.gossip(tree, n), good ? want : BEYOND);
            }
        }
        due("only thought", x.talkOf(0), 0);
        due("told(2)", x.told(2), 4);
    }

    private static void gossipLeastAndMost() {
        promise = 20;
        FelledByNames x = new FelledByNames();
        x.tree(0, 25, 0, 0);
        for (int v = 0; v <= 10; v++) {
            read(x, 0, "0-(t=" + 2 * v + ")*9");
            due("with " + v + " alone", x.gossip(0, 30), v <= 9 ? v : NONE);
        }
        read(x, 0, "0-(t>6)*9");
        due("the least of several", x.gossip(0, 3), 4);
        read(x, 0, "0-(t<6)*9");
        due("with 0 and others", x.gossip(0, 3), 0);
        due("in 2 DAYS", x.gossip(0, 2), NONE);
        read(x, 0, "0-t*(t<19)");
        holdBoth(x, 2, 5, 60);
        due("30 DAYS, 2 each", x.gossip(0, 30), 1);
        due("29 DAYS, 2 each, too few", x.gossip(0, 29), 2);
        holdBoth(x, 2, 5, 61);
        due("30 DAYS, 2 each, too few", x.gossip(0, 30), 2);
        x.change(0, 2, 0);
        due("it isn't STANDING", x.gossip(0, 0), 0);
        due("it isn't STANDING", x.gossip(0, 30), 0);
    }

    private static void gossipOthersStay() {
        promise = 20;
        FelledByNames x = new FelledByNames();
        x.tree(0, 1, 0, 0);
        x.talk(0, 9);
        due("about both alike, not as it is", x.gossip(0, 3), 4);
        x.talk(0, 0);
        x.talk(1, 9);
        due("about both alike, not as it is", x.gossip(0, 3), 4);
        x.talk(1, 0);
        x.tree(0, 23, 1, 5);
        x.change(0, 1, 20);
        due("by its own names", x.gossip(1, 3), 4);
        x.talk(0, 7);
        due("others as they are", x.gossip(1, 3), 0);
        x.talk(0, 6);
        due("others as they are", x.gossip(1, 3), 4);
        due("others as they are", x.gossip(1, 4), 0);
        FelledByNames y = new FelledByNames();
        y.tree(0, 12, 1, 5);
        y.tree(0, 1, 0, 20);
        y.talk(0, 6);
        due("one in common", y.gossip(0, 3), 1);
        due("one in common", y.gossip(0, 4), 0);
    }

    private static void aboutArguments() {
        promise = 21;
        for (int trees = 0; trees <= 8; trees++) {
            FelledByNames x = new FelledByNames();
            for (int i = 0; i < trees; i++) {
                x.tree(0, 1, 0, 0);
            }
            int all = (1 << trees) - 1;
            for (int set : new int[] {MIN, -1, 0, all, all + 1, 255, 256, MAX}) {
                for (int n : new int[] {MIN, -1, 0, 2, 3, 30, 31, MAX}) {
                    boolean good = in(set, 0, all) && in(n, 0, 30);
                    int want = set == 0 ? 0 : n < 3 ? NONE : 1;
                    due(call("about", set, n), x.about(set, n), good ? want : BEYOND);
                }
            }
            due("only thought", x.talkOf(0), 0);
        }
    }

    private static void aboutFewest() {
        promise = 21;
        FelledByNames x = new FelledByNames();
        x.tree(0, 1, 0, 0);
        x.tree(0, 23, 0, 0);
        x.tree(0, 45, 0, 0);
        int[] least = {0, 0b000001, 0b000100, 0b000101, 0b010000, 0b010001, 0b010100, 0b010101};
        for (int set = 0; set < 8; set++) {
            due(call("about", set, 3), x.about(set, 3), least[set]);
        }
        read(x, 0, "0-(t=18)*9");
        int[] both = {0, 0b000011, 0b001100, 0b001111, 0b110000, 0b110011, 0b111100, 0b111111};
        for (int set = 0; set < 8; set++) {
            due(call("about", set, 3), x.about(set, 3), both[set]);
            due(call("about", set, 2), x.about(set, 2), set == 0 ? 0 : NONE);
        }
        FelledByNames y = new FelledByNames();
        y.tree(0, 5, 0, 0);
        y.tree(0, 15, 0, 0);
        due("fewest, ahead of the least set", y.about(3, 3), 0b100000);
        due("of several sets the least", y.about(1, 3), 0b000001);
        y.tree(0, 25, 0, 0);
        y.tree(0, 34, 0, 0);
        due("fewest, ahead of the least set", y.about(15, 3), 0b101000);
        y.change(3, 2, 0);
        due("one that isn't STANDING", y.about(15, 3), 0b100000);
        due("one that isn't STANDING alone", y.about(8, 0), 0);
        FelledByNames w = new FelledByNames();
        w.tree(0, 1, 0, 0);
        holdBoth(w, 0, 1, 99);
        read(w, 0, "0-t/3");
        due("30 DAYS, 3 each, too few", w.about(1, 30), 0b11);
        holdBoth(w, 0, 1, 90);
        due("30 DAYS, 3 each", w.about(1, 30), 0b01);
        due("29 DAYS, 3 each, too few", w.about(1, 29), 0b11);
    }

    private static void aboutOthersStay() {
        promise = 21;
        FelledByNames x = new FelledByNames();
        x.tree(0, 1, 0, 0);
        x.tree(0, 45, 0, 0);
        x.talk(1, 9);
        due("one is talked of as it is", x.about(1, 3), 0);
        due("one is talked of as it is", x.about(3, 3), 0b010000);
        x.talk(5, 7);
        due("all are talked of as it is", x.about(3, 3), 0);
        x.talk(5, 6);
        due("not quite", x.about(3, 3), 0b010000);
        read(x, 0, "0-(t=9)*9");
        due("9 in place of what it is", x.about(2, 3), 0b100000);
        x.talk(4, 9);
        due("9 in place of what it is", x.about(2, 3), NONE);
    }

    private static void talkedArguments() {
        promise = 22;
        FelledByNames x = new FelledByNames();
        x.tree(0, 1, 0, 0);
        fill(x, 0, 8, 1, 0);
        fill(x, 3, 32, 1, 30);
        for (int sheet : new int[] {MIN, -1, 0, 1, 2, 3, 4, MAX}) {
            for (int what : new int[] {MIN, -1, 0, 1, 2, MAX}) {
                int[] many = {10, NONE, NONE, 1};
                int[] least = {0, NONE, NONE, 0};
                boolean good = in(sheet, 0, 3) && in(what, 0, 1);
                due(call("talked", sheet, what), x.talked(sheet, what), good ? (what == 0 ? many : least)[sheet] : BEYOND);
            }
        }
        due("told(2)", x.told(2), 4);
    }

    private static void talkedNumbers() {
        promise = 22;
        for (int trees = 0; trees <= 8; trees++) {
            FelledByNames x = new FelledByNames();
            for (int i = 0; i < trees; i++) {
                x.tree(0, 1, 0, 0);
            }
            for (int size : new int[] {0, 1, trees, trees + 1, trees + 2, 40}) {
                x.sheet(1, 16, size);
                for (int i = 0; i < Math.min(trees, size); i++) {
                    x.put(1, i, 1);
                }
                boolean good = size == trees + 1;
                due("TREES " + trees + ", numbers " + size, x.talked(1, 0), good ? 10 : NONE);
                due("TREES " + trees + ", numbers " + size, x.talked(1, 1), good ? 0 : NONE);
            }
        }
        FelledByNames x = new FelledByNames();
        x.tree(0, 1, 0, 0);
        for (int bits = 8; bits <= 32; bits *= 2) {
            for (int last : new int[] {0, 1, 29, 30, 31, 255, -1, MAX, MIN}) {
                fill(x, 2, bits, 1, last);
                int cut = bits == 8 ? last & 255 : bits == 16 ? last & 65535 : last;
                int want = cut == 0 || cut == 1 ? 10 : cut == 29 || cut == 30 ? 1 : NONE;
                due(bits + " bits, last " + last, x.talked(2, 0), want);
            }
        }
    }

    private static void talkedTalks() {
        promise = 22;
        FelledByNames x = new FelledByNames();
        x.tree(0, 1, 0, 0);
        x.tree(0, 45, 0, 0);
        holdBoth(x, 4, 5, 99);
        int[][] tells = {{1, 1, 3}, {0, 1, 3}, {0, 0, 3}, {1, 0, 3}, {0, 0, 11}, {0, 0, 10}, {0, 1, 30}, {0, 0, 30}, {1, 1, 0},
            {0, 1, 0}, {2, 1, 0}, {1, 2, 0}, {-1, 1, 0}, {256, 1, 30}};
        int[] many = {4, 6, 0, 0, 5, 0, 1, 8, 10, 0, 0, 0, 0, 0};
        int[] least = {0, 4, NONE, NONE, 5, NONE, 1, 2, 0, NONE, NONE, NONE, NONE, NONE};
        for (int i = 0; i < tells.length; i++) {
            fill(x, 0, 32, tells[i]);
            due("how many, row " + i, x.talked(0, 0), many[i]);
            due("the least, row " + i, x.talked(0, 1), least[i]);
        }
        fill(x, 0, 8, 256, 1, 30);
        due("256 is 0 of 8 bits", x.talked(0, 1), 1);
        read(x, 0, "0-(t=18)*9");
        fill(x, 0, 8, 0, 1, 3);
        due("by 9 alone, how many", x.talked(0, 0), 1);
        due("by 9 alone, the least", x.talked(0, 1), 9);
        read(x, 0, "0-(t=20)*9");
        due("by none, how many", x.talked(0, 0), 0);
        due("by none, the least", x.talked(0, 1), NONE);
        x.change(0, 2, 0);
        due("one isn't STANDING anyway", x.talked(0, 0), 10);
        x.talk(5, 9);
        read(x, 0, "0-(t=9)*9");
        fill(x, 0, 8, 0, 1, 30);
        due("about all alike, not as it is", x.talked(0, 0), 10);
        due("only thought", x.talkOf(5), 9);
    }

    private static void crash() {
        promise = 23;
        FelledByNames x = new FelledByNames();
        for (int i = 0; i < 8; i++) {
            x.tree(0, 1, i, 27 - i);
        }
        for (int tree : new int[] {MIN, -1, 8, MAX}) {
            due(call("crash", tree), x.crash(tree), BEYOND);
        }
        for (int i = 0; i < 8; i++) {
            due(call("crash", i), x.crash(i), 8 - i);
        }
        x.change(4, 2, 0);
        for (int i = 0; i < 8; i++) {
            due(call("crash", i), x.crash(i), i < 4 ? 4 - i : i == 4 ? 0 : 8 - i);
        }
        due("only thought", x.count(5), 0b11101111);
        due("only thought", x.count(4), 0);
        due("only thought", x.count(3), 0);
        x.change(1, 1, 26);
        x.change(2, 1, 26);
        due("one as high stays", x.crash(1), 1);
        due("one less high falls", x.crash(0), 2);
        x.change(0, 1, 19);
        due("it doesn't reach", x.crash(0), 1);
        x.become(0, 30);
        due("no DAY goes by, it doesn't grow", x.crash(0), 1);
        holdBoth(x, 0, 1, 0);
        due("others fall by it alone", x.crash(0), 1);
        FelledByNames y = new FelledByNames();
        y.tree(0, 1, 11, 99);
        y.tree(0, 1, 15, 98);
        y.tree(0, 1, 12, 98);
        y.tree(0, 1, 11, 0);
        due("crash up to PLACE 15", y.crash(0), 3);
        due("crash at PLACE 15", y.crash(1), 1);
    }

    private static void keeperArguments() {
        promise = 24;
        FelledByNames x = new FelledByNames();
        x.tree(0, 54, 0, 0);
        for (int n : new int[] {MIN, -1, 0, 1, 29, 30, 31, MAX}) {
            for (int what : new int[] {MIN, -1, 0, 1, 2, MAX}) {
                boolean good = in(n, 0, 30) && in(what, 0, 1);
                due(call("keeper", n, what), x.keeper(n, what), good ? what : BEYOND);
            }
        }
        due("only thought", x.count(6), 600);
    }

    private static void keeperWho() {
        promise = 24;
        for (int who = 0; who < 6; who++) {
            FelledByNames x = new FelledByNames();
            read(x, 0, "0-9");
            for (int i = 0; i < 6; i++) {
                if (i != who) {
                    x.tree(0, i < 3 ? who * 10 + i : i * 10 + who, 0, 0);
                }
            }
            due("all stand", x.keeper(2, 0), 0);
            due("all stand", x.keeper(2, 1), 5);
            due("the one whose name all have", x.keeper(3, 0), who);
            due("the one whose name all have", x.keeper(3, 1), 5);
            due("99 at first", x.keeper(10, 0), who);
            due("99 at first", x.keeper(10, 1), 5);
            due("none stand", x.keeper(11, 0), 0);
            due("none stand", x.keeper(11, 1), 0);
            x.change(0, 2, 0);
            due("one isn't STANDING anyway", x.keeper(3, 1), 4);
        }
        FelledByNames x = new FelledByNames();
        read(x, 0, "0-(h%9=0)*9");
        x.tree(0, 1, 0, 0);
        due("each way, 99 goes down to 0", x.keeper(10, 0), 0);
        due("each way, 99 goes down to 0", x.keeper(11, 0), 2);
        due("each way, 99 goes down to 0", x.keeper(11, 1), 1);
        x.tree(0, 23, 0, 0);
        due("by none of four", x.keeper(11, 0), 4);
        due("by none of four", x.keeper(11, 1), 2);
        x.tree(0, 45, 0, 0);
        due("of several the least", x.keeper(11, 0), 0);
        due("of several the least", x.keeper(11, 1), 2);
        due("30 DAYS", x.keeper(30, 1), 2);
    }

    private static void orderArguments() {
        promise = 25;
        FelledByNames x = oneByOne();
        for (int sheet : new int[] {MIN, -1, 0, 1, 2, 3, 4, MAX}) {
            due(call("order", sheet), x.order(sheet), in(sheet, 0, 3) ? NONE : BEYOND);
        }
        for (int sheet = 0; sheet < 4; sheet++) {
            x.sheet(sheet, 8, 0);
            due("no numbers", x.order(sheet), 0);
            x.sheet(sheet, 8, 40);
            due("40 numbers", x.order(sheet), 1);
            x.sheet(sheet, 0, 0);
            due("missing again", x.order(sheet), NONE);
        }
        due("told(2)", x.told(2), 8);
        due("only thought", x.count(5), 255);
    }

    private static void orderNumbers() {
        promise = 25;
        int[] all = {0, 1, 2, 3, 4, 5, 6, 7};
        for (int wrong = 0; wrong <= 8; wrong++) {
            FelledByNames x = oneByOne();
            fill(x, 0, 8, all);
            x.put(0, wrong, wrong + 1);
            due("number " + wrong + " is wrong", x.order(0), wrong);
            x.put(0, wrong, -1);
            due("number " + wrong + " is wrong", x.order(0), wrong);
        }
        FelledByNames x = oneByOne();
        for (int bits = 8; bits <= 32; bits *= 2) {
            fill(x, 0, bits, 256, 1);
            due("256 of " + bits + " bits", x.order(0), bits == 8 ? 2 : 0);
            fill(x, 0, bits, 65536, 1);
            due("65536 of " + bits + " bits", x.order(0), bits == 32 ? 0 : 2);
        }
        fill(x, 0, 32, 0, 1, 2, 3, 4, 5, 6, 7, 8, 9);
        due("more numbers than TREES", x.order(0), 8);
        fill(x, 0, 32, 0, 1, 2, 3, 4, 5, 6, 7, -1, -1);
        due("more numbers than TREES, that are none", x.order(0), 8);
        fill(x, 0, 32, 0, 1, 2, 3, 4, 5, 6, 7, 0);
        due("more numbers than TREES, one that fell", x.order(0), 8);
        holdBoth(x, 3, 1, 60);
        due("behind 60 DAYS", x.order(0), 8);
        holdBoth(x, 3, 1, 61);
        due("behind 61 DAYS", x.order(0), 7);
        x.change(0, 2, 0);
        due("one that isn't STANDING doesn't fall", x.order(0), 0);
        fill(x, 0, 32, 1, 2);
        due("one that isn't STANDING doesn't fall", x.order(0), 2);
        FelledByNames y = new FelledByNames();
        y.tree(0, 23, 2, 30);
        y.tree(0, 1, 0, 60);
        y.tree(0, 23, 3, 5);
        y.tree(0, 23, 1, 30);
        y.tree(0, 45, 9, 5);
        holdBoth(y, 0, 1, 0);
        holdBoth(y, 4, 5, 0);
        fill(y, 0, 8, 1, 0, 2, 3, 4);
        due("at once, ahead of the next one", y.order(0), 5);
    }

    private static void timber() {
        promise = 26;
        FelledByNames x = oneByOne();
        for (int n : FAR) {
            int wood = 0;
            for (int i = 0; i < 8; i++) {
                wood += 7 * i + 1 <= n ? 10 + i : 0;
            }
            due(call("timber", n), x.timber(n), in(n, 0, 60) ? wood : BEYOND);
        }
        x.set(2, 500);
        due("how much more", x.timber(60), 108);
        x.set(2, 99999 - 108);
        due("up to what is held", x.timber(60), 108);
        x.set(2, 99999 - 107);
        due("held", x.timber(60), 107);
        x.set(2, 99999);
        due("held", x.timber(60), 0);
        due("only thought", x.count(4), 99999);
        x.set(2, 0);
        read(x, 1, "0-x");
        due("none of it", x.timber(60), 0);
        read(x, 1, "x*x");
        due("99 of each", x.timber(60), 8 * 99);
        x.change(0, 2, 0);
        due("none of one that isn't STANDING", x.timber(60), 7 * 99);
    }

    private static void safeArguments() {
        promise = 27;
        FelledByNames x = new FelledByNames();
        x.tree(0, 1, 11, 80);
        holdBoth(x, 0, 1, 60);
        read(x, 0, "0-1");
        for (int n : FAR) {
            due(call("safe", n), x.safe(n), !in(n, 0, 60) ? BEYOND : n < 60 ? 15 : 11);
        }
        for (int fence : new int[] {0, 11, 12, 15}) {
            x.set(0, fence);
            due("wherever the FENCE is", x.safe(60), 11);
            due("only thought", x.count(2), fence);
        }
        due("only thought", x.count(3), 0);
        x.change(0, 2, 0);
        due("it isn't STANDING", x.safe(60), 15);
    }

    private static void safePlaces() {
        promise = 27;
        for (int place = 0; place <= 15; place++) {
            for (int height : new int[] {0, 19, 20, 39, 40, 79, 80, 99}) {
                FelledByNames x = new FelledByNames();
                x.tree(0, 1, place, height);
                holdBoth(x, 0, 1, 0);
                boolean hit = height >= 20 && place < 15 && place + height / 20 >= 15;
                due("safe of " + height + " at " + place, x.safe(1), hit ? place : 15);
            }
        }
        FelledByNames x = new FelledByNames();
        for (int i = 0; i < 4; i++) {
            x.tree(0, 1, i * 4, 80);
        }
        holdBoth(x, 0, 1, 0);
        due("only PLACE 0 is free", x.safe(1), 0);
        x.change(0, 0, 1);
        x.change(0, 1, 60);
        due("of several the greatest", x.safe(1), 1);
        x.tree(0, 1, 0, 20);
        due("only PLACE 0 is free", x.safe(1), 0);
        x.change(4, 0, 11);
        x.tree(0, 1, 0, 20);
        due("PLACE 1 is hit once, as others", x.safe(1), 0);
        FelledByNames y = new FelledByNames();
        for (int i = 0; i < 8; i++) {
            y.tree(0, 1, i < 4 ? 11 : 7, 99);
        }
        y.change(7, 1, 98);
        holdBoth(y, 0, 1, 0);
        for (int harm : new int[] {0, 994, 995, 996, 998, 999}) {
            y.set(1, harm);
            due("HARM " + harm + " at first", y.safe(1), harm == 999 ? 15 : 7);
        }
    }

    private static void oddsArguments() {
        promise = 28;
        FelledByNames x = new FelledByNames();
        x.tree(0, 1, 0, 0);
        for (int tree : new int[] {MIN, -1, 0, 1, 8, MAX}) {
            for (int n : new int[] {MIN, -1, 0, 1, 60, 61, MAX}) {
                for (int part : new int[] {MIN, -1, 0, 1, 2, MAX}) {
                    boolean good = tree == 0 && in(n, 0, 60) && in(part, 0, 1);
                    int want = n == 0 ? part : part == 0 ? 1 : 10;
                    due(call("odds", tree, n, part), x.odds(tree, n, part), good ? want : BEYOND);
                }
            }
        }
        due("only thought", x.count(6), 600);
    }

    private static void oddsAll() {
        promise = 28;
        int[] above = {0, 1, 1, 3, 2, 1, 3, 7, 4, 9, 1};
        int[] below = {1, 10, 5, 10, 5, 2, 5, 10, 5, 10, 1};
        FelledByNames x = new FelledByNames();
        x.tree(0, 43, 0, 0);
        x.hold(4, 3, 99);
        read(x, 0, "0-9");
        for (int n = 0; n <= 10; n++) {
            due(call("odds", 0, n, 0), x.odds(0, n, 0), above[n]);
            due(call("odds", 0, n, 1), x.odds(0, n, 1), below[n]);
        }
        due("60 DAYS", x.odds(0, 60, 0), 1);
        x.change(0, 2, 0);
        due("it isn't STANDING", x.odds(0, 0, 0), 1);
        due("it isn't STANDING", x.odds(0, 0, 1), 1);
        x.change(0, 2, 1);
        read(x, 0, "9");
        x.become(0, 18);
        due("never", x.odds(0, 60, 0), 0);
        due("never", x.odds(0, 60, 1), 1);
        x.become(0, 19);
        due("0 is 9 then, up to LIMIT", x.odds(0, 1, 0), 1);
        read(x, 0, "0-(h=90)*9-(h=81)*9-(h<80)");
        x.become(0, 0);
        due("90 stays at 72 and less", x.odds(0, 10, 0), 1);
        due("90 stays at 72 and less", x.odds(0, 10, 1), 5);
        due("names hold as they did", x.holds(4, 3), 99);
        FelledByNames y = new FelledByNames();
        y.tree(0, 1, 0, 20);
        y.tree(0, 23, 1, 5);
        y.talk(2, 1);
        due("by its own names", y.odds(1, 10, 0), 1);
        due("by its own names", y.odds(1, 10, 1), 5);
        holdBoth(y, 0, 1, 0);
        due("by another one's fall", y.odds(1, 10, 0), 1);
        due("by another one's fall", y.odds(1, 10, 1), 1);
    }

    /** Behind how many DAYS, and how high, a TREE with m 9 falls whose names HOLD one less on each DAY. */
    private static int[] fallOf(int kind, int height, int hold) {
        for (int n = 1;; n++) {
            int day = n - 1;
            int[] grows = {0, day % 3 == 0 ? 1 : 0, 0, 1, day % 3 == 0 ? 1 : 0, 0, 2};
            height = Math.min(99, height + grows[kind]);
            int[] limits = {0, 9, 4, 5, day % 2 == 0 ? 9 : 0, 24, 5 + height / 10};
            if (Math.max(0, hold - n) <= limits[kind]) {
                return new int[] {n, height};
            }
        }
    }

    /** One of each KIND, as the first of a new object, is thought of by its own LIMIT, GROWS and REACHES. */
    private static void kindsInThought() {
        for (int i = 0; i < 7 * 6; i++) {
            int kind = i % 7;
            int hold = 27 + i / 7 % 3;
            int height = i / 21 * 71 + 18;
            int[] fall = fallOf(kind, height, hold);
            int n = fall[0];
            boolean reaches = kind != 5 && fall[1] >= 20;
            String of = " of KIND " + kind + ", HEIGHT " + height + ", HOLDS " + hold;
            promise = 18;
            due("when" + of, kindAlone(kind, height, hold).when(0), n);
            due("when, by its fall" + of, kindAlone(kind, height, hold).when(1), reaches ? n : NONE);
            promise = 19;
            due("down" + of, kindAlone(kind, height, hold).down(n - 1), 0);
            due("down" + of, kindAlone(kind, height, hold).down(n), reaches ? 3 : 1);
            promise = 20;
            due("gossip" + of, kindAlone(kind, height, hold).gossip(0, n - 1), NONE);
            due("gossip" + of, kindAlone(kind, height, hold).gossip(0, n), 0);
            promise = 21;
            due("about" + of, kindAlone(kind, height, hold).about(1, n - 1), NONE);
            due("about" + of, kindAlone(kind, height, hold).about(1, n), 0);
            promise = 22;
            FelledByNames x = kindAlone(kind, height, hold);
            fill(x, 0, 8, 0, reaches ? 0 : 1, n);
            due("talked" + of, x.talked(0, 0), 10);
            x.put(0, 2, n - 1);
            due("talked" + of, x.talked(0, 0), 0);
            promise = 24;
            due("keeper" + of, kindAlone(kind, height, hold).keeper(n - 1, 0), 0);
            due("keeper" + of, kindAlone(kind, height, hold).keeper(n, 0), 4);
            promise = 25;
            x = kindAlone(kind, height, hold);
            fill(x, 0, 8, 0, 1);
            due("order" + of, x.order(0), reaches ? 2 : 1);
            promise = 26;
            due("timber" + of, kindAlone(kind, height, hold).timber(n), fall[1] + (reaches ? 5 : 0));
            promise = 27;
            due("safe" + of, kindAlone(kind, height, hold).safe(n), reaches ? 14 : 15);
            due("safe" + of, kindAlone(kind, height, hold).safe(n - 1), 15);
            promise = 28;
            int down = 0;
            for (int v = 0; v < 100; v += 10) {
                down += fallOf(kind, height, v)[0] <= n ? 1 : 0;
            }
            x = kindAlone(kind, height, hold);
            due("odds" + of, x.odds(0, n, 0) * 10 / x.odds(0, n, 1), down);
            promise = 23;
            x = kindAlone(kind, height, hold);
            due("crash" + of, x.crash(0), kind != 5 && height >= 20 ? 2 : 1);
            promise = 40;
            x = kindAlone(kind, height, hold);
            for (int day = 1; day <= 20; day++) {
                x.tell(day < n ? 2 : reaches ? 0 : 1);
            }
            due("check" + of, x.check(), 0);
        }
    }

    private static FelledByNames kindAlone(int kind, int height, int hold) {
        FelledByNames x = new FelledByNames();
        read(x, 0, "0-1");
        x.tree(kind * 10 + 9, 45, 14, height);
        x.tree(0, 23, 15, 5);
        holdBoth(x, 4, 5, hold);
        holdBoth(x, 2, 3, 99);
        return x;
    }

    /** Thoughts go on beyond DAY 9999: the rest by 7 is 3 on it, it is odd, 3 divides it. */
    private static void beyondTheLastDay() {
        FelledByNames x = aged(9999);
        x.tree(49, 1, 0, 18);
        x.tree(0, 23, 1, 18);
        read(x, 0, "d");
        x.hold(4, 5, 0);
        promise = 17;
        int[] ahead = {0, 3, 7, 12, 18, 18, 19, 21};
        for (int n = 0; n < ahead.length; n++) {
            due("beyond 9999, " + call("then", n, 4, 5), x.then(n, 4, 5), ahead[n]);
        }
        due("beyond 9999", x.then(60, 4, 5), 99);
        read(x, 0, "0-t");
        holdBoth(x, 0, 1, 9);
        promise = 18;
        due("beyond 9999, WEDGED", x.when(0), 2);
        x.talk(2, 1);
        due("beyond 9999", x.when(1), 20);
        promise = 19;
        due("beyond 9999", x.down(1), 0);
        due("beyond 9999", x.down(2), 1);
        due("beyond 9999", x.down(60), 3);
        promise = 20;
        due("beyond 9999", x.gossip(1, 5), 2);
        promise = 21;
        due("beyond 9999", x.about(2, 3), 0b100);
        promise = 22;
        fill(x, 0, 8, 0, 1, 2);
        due("beyond 9999", x.talked(0, 0), 10);
        promise = 24;
        due("beyond 9999", x.keeper(2, 1), 2);
        promise = 25;
        fill(x, 0, 8, 0, 1);
        due("beyond 9999", x.order(0), 2);
        promise = 26;
        due("beyond 9999, it grows", x.timber(2), 19);
        due("beyond 9999", x.timber(60), 37);
        promise = 27;
        x.change(1, 0, 14);
        x.change(1, 1, 20);
        due("beyond 9999", x.safe(19), 15);
        due("beyond 9999", x.safe(20), 14);
        promise = 28;
        due("beyond 9999", x.odds(0, 2, 1), 10);
        promise = 40;
        x.tell(2);
        x.tell(1);
        due("beyond 9999", x.check(), 0);
        promise = 15;
        due("only thought", x.count(1), 9999);
        due("only thought", x.days(1), STATE);
    }
}
