/** Promises 1 to 11: each edge of people, the fence and trees that the document names, from both sides. */
public final class EdgesOfHillTest extends Due {
    private static final int[] ABOVE = {-1, 0, 0, 0, 1, 2, 3};

    public static void main(String[] args) {
        nothingYet();
        noTreesYet();
        hold();
        holds();
        talk();
        set();
        treeArguments();
        treePairs();
        treesAreFull();
        ofTree();
        limits();
        limitsByDay();
        reaches();
        change();
        become();
        as();
        end();
    }

    private static void nothingYet() {
        promise = 1;
        FelledByNames x = new FelledByNames();
        int[] first = {0, 0, 15, 0, 0, 0, 6 * 5 * 20, 0, 0, 0, 1};
        for (int i = 0; i < first.length; i++) {
            due(call("count", i), x.count(i), first[i]);
        }
        for (int i = 0; i < 36; i++) {
            if (i / 6 != i % 6) {
                due(call("holds", i / 6, i % 6), x.holds(i / 6, i % 6), 20);
            }
        }
        for (int i = 0; i < 6; i++) {
            due(call("talkOf", i), x.talkOf(i), 0);
        }
        due("no TEXT of COOLS", x.law(0, 50, 7, 3), -7);
        due("no TEXT of WOOD", x.law(1, 50, 7, 3), 50);
        for (int k = 1; k <= 5; k++) {
            due(call("told", k), x.told(k), 0);
        }
        for (int i = 0; i < 4; i++) {
            due("SHEETS are missing", x.talks(i), NONE);
        }
        due("no IMAGE", x.restore(), NONE);
        due("THE TRACE is empty", x.trace(0), NONE);
        due("THE TAPE is empty", x.text(0), -10);
        due("the first IMAGE", x.image(), 1);
        due("the first that waits", x.tell(0), 1);
        due("z", x.seed(5), 1);
        FelledByNames y = new FelledByNames();
        due("z of another object", y.seed(1), 1);
        due("an IMAGE of another object", y.restore(), NONE);
    }

    private static void noTreesYet() {
        promise = 1;
        FelledByNames x = new FelledByNames();
        due("ofTree(0, 0)", x.ofTree(0, 0), BEYOND);
        due("change(0, 0, 0)", x.change(0, 0, 0), BEYOND);
        due("become(0, 0)", x.become(0, 0), BEYOND);
        due("as(0, 0)", x.as(0, 0), BEYOND);
        due("when(0)", x.when(0), BEYOND);
        due("gossip(0, 0)", x.gossip(0, 0), BEYOND);
        due("about(1, 0)", x.about(1, 0), BEYOND);
        due("crash(0)", x.crash(0), BEYOND);
        due("odds(0, 0, 0)", x.odds(0, 0, 0), BEYOND);
        due("voice(0, 0, 0)", x.voice(0, 0, 0), BEYOND);
        due("told(1)", x.told(1), 10);
        due("about(0, 30)", x.about(0, 30), 0);
        due("down(60)", x.down(60), 0);
        due("keeper(30, 0)", x.keeper(30, 0), 0);
        due("keeper(30, 1)", x.keeper(30, 1), 0);
        due("timber(60)", x.timber(60), 0);
        due("safe(60)", x.safe(60), 15);
        due("days(60)", x.days(60), 0);
        due("loose(40)", x.loose(40), 0);
        x.sheet(0, 8, 0);
        due("order of nothing", x.order(0), 0);
        due("judge of nothing", x.judge(0), -1);
        x.sheet(0, 8, 1);
        due("talked of no TREES", x.talked(0, 0), 10);
        due("order of no TREES", x.order(0), 0);
        due("judge of no TREES", x.judge(0), 0);
    }

    private static void hold() {
        promise = 2;
        for (int one : around(0, 5)) {
            for (int other : around(0, 5)) {
                for (int v : around(0, 99)) {
                    FelledByNames x = new FelledByNames();
                    boolean good = in(one, 0, 5) && in(other, 0, 5) && one != other && in(v, 0, 99);
                    due(call("hold", one, other, v), x.hold(one, other, v), good ? 20 : BEYOND);
                    due("all together", x.count(6), good ? 580 + v : 600);
                    due("told(1)", x.told(1), good ? 0 : 1);
                    if (good) {
                        due("what it becomes", x.holds(one, other), v);
                        due("the other way stays", x.holds(other, one), 20);
                        due("what it was", x.hold(one, other, 1), v);
                    }
                }
            }
        }
        FelledByNames x = new FelledByNames();
        for (int i = 0; i < 36; i++) {
            due(call("hold", i / 6, i % 6, i * 2), x.hold(i / 6, i % 6, i * 2), i / 6 == i % 6 ? BEYOND : 20);
        }
        for (int i = 0; i < 36; i++) {
            due(call("holds", i / 6, i % 6), x.holds(i / 6, i % 6), i / 6 == i % 6 ? BEYOND : i * 2);
        }
        due("told(1)", x.told(1), 12);
    }

    private static void holds() {
        promise = 3;
        FelledByNames x = new FelledByNames();
        int[] people = {MIN, -2, -1, 0, 1, 2, 3, 4, 5, 6, 7, MAX};
        int errors = 0;
        for (int one : people) {
            for (int other : people) {
                boolean good = in(one, 0, 5) && in(other, 0, 5) && one != other;
                due(call("holds", one, other), x.holds(one, other), good ? 20 : BEYOND);
                errors += good ? 0 : 1;
            }
        }
        due("told(1)", x.told(1), errors);
    }

    private static void talk() {
        FelledByNames x = new FelledByNames();
        int[] now = new int[6];
        for (int person : new int[] {MIN, -1, 0, 1, 2, 3, 4, 5, 6, MAX}) {
            for (int v : new int[] {MIN, -1, 0, 9, 10, 4, MAX}) {
                promise = 4;
                boolean good = in(person, 0, 5) && in(v, 0, 9);
                due(call("talk", person, v), x.talk(person, v), good ? now[person] : BEYOND);
                if (good) {
                    now[person] = v;
                }
            }
            promise = 5;
            due(call("talkOf", person), x.talkOf(person), in(person, 0, 5) ? 4 : BEYOND);
        }
        x.talk(2, 7);
        for (int person = 0; person < 6; person++) {
            due("others stay", x.talkOf(person), person == 2 ? 7 : 4);
        }
    }

    private static void set() {
        promise = 6;
        int[] most = {15, 999, 99999};
        int[] first = {15, 0, 0};
        for (int what : new int[] {MIN, -1, 0, 1, 2, 3, MAX}) {
            int high = in(what, 0, 2) ? most[what] : 15;
            for (int v : around(0, high)) {
                FelledByNames x = new FelledByNames();
                boolean good = in(what, 0, 2) && in(v, 0, high);
                due(call("set", what, v), x.set(what, v), good ? first[what] : BEYOND);
                for (int i = 0; i < 3; i++) {
                    due(call("count", i + 2), x.count(i + 2), good && i == what ? v : first[i]);
                }
                if (good) {
                    due("what it was", x.set(what, 0), v);
                }
            }
        }
    }

    private static void treeArguments() {
        promise = 7;
        for (int km : around(0, 69)) {
            for (int place : around(0, 15)) {
                for (int height : around(0, 99)) {
                    FelledByNames x = new FelledByNames();
                    boolean good = in(km, 0, 69) && in(place, 0, 15) && in(height, 0, 99);
                    due(call("tree", km, 45, place, height), x.tree(km, 45, place, height), good ? 0 : BEYOND);
                    due("count(0)", x.count(0), good ? 1 : 0);
                    if (good) {
                        int[] of = {km / 10, km % 10, 45, place, height, 1};
                        for (int what = 0; what < 6; what++) {
                            due(call("ofTree", 0, what), x.ofTree(0, what), of[what]);
                        }
                    }
                }
            }
        }
        for (int km = 0; km < 70; km++) {
            FelledByNames x = new FelledByNames();
            x.tree(km, 1, 0, 0);
            due("KIND of " + km, x.ofTree(0, 0), km / 10);
            due("m of " + km, x.ofTree(0, 1), km % 10);
        }
    }

    private static void treePairs() {
        promise = 7;
        for (int pair = -70; pair <= 120; pair++) {
            FelledByNames x = new FelledByNames();
            int one = pair / 10;
            int other = pair % 10;
            boolean good = pair >= 0 && one <= 5 && other <= 5 && one != other;
            due(call("tree", 0, pair, 0, 0), x.tree(0, pair, 0, 0), good ? 0 : BEYOND);
            due("ofTree(0, 2)", x.ofTree(0, 2), good ? pair : BEYOND);
        }
        FelledByNames x = new FelledByNames();
        for (int pair : new int[] {MIN, MIN + 1, MAX, MAX - 1, 1000, -1000}) {
            due(call("tree", 0, pair, 0, 0), x.tree(0, pair, 0, 0), BEYOND);
        }
    }

    private static void treesAreFull() {
        promise = 7;
        FelledByNames x = new FelledByNames();
        for (int i = 0; i < 8; i++) {
            due("tree, all at one PLACE", x.tree(i, 1, 3, i), i);
            due("count(0)", x.count(0), i + 1);
            due("count(5)", x.count(5), (2 << i) - 1);
        }
        due("tree, a ninth", x.tree(0, 1, 0, 0), FULL);
        due("tree, a ninth at the edges", x.tree(69, 54, 15, 99), FULL);
        x.change(7, 2, 0);
        due("tree, a ninth, though one fell", x.tree(0, 1, 0, 0), FULL);
        due("BEYOND ahead of FULL", x.tree(70, 1, 0, 0), BEYOND);
        due("BEYOND ahead of FULL", x.tree(-1, 1, 0, 0), BEYOND);
        due("BEYOND ahead of FULL", x.tree(0, 0, 0, 0), BEYOND);
        due("BEYOND ahead of FULL", x.tree(0, -1, 0, 0), BEYOND);
        due("BEYOND ahead of FULL", x.tree(0, 1, 16, 0), BEYOND);
        due("BEYOND ahead of FULL", x.tree(0, 1, -1, 0), BEYOND);
        due("BEYOND ahead of FULL", x.tree(0, 1, 0, 100), BEYOND);
        due("BEYOND ahead of FULL", x.tree(0, 1, 0, -1), BEYOND);
        due("told(4)", x.told(4), 3);
        due("told(1)", x.told(1), 8);
        due("count(0)", x.count(0), 8);
        for (int i = 0; i < 8; i++) {
            due(call("ofTree", i, 1), x.ofTree(i, 1), i);
            due(call("ofTree", i, 4), x.ofTree(i, 4), i);
        }
        due("ofTree(8, 0)", x.ofTree(8, 0), BEYOND);
    }

    private static void ofTree() {
        promise = 8;
        FelledByNames x = new FelledByNames();
        x.tree(38, 50, 0, 99);
        x.tree(69, 5, 15, 0);
        int[][] of = {{3, 8, 50, 0, 99, 1, 5, 4}, {6, 9, 5, 15, 0, 1, 5, 0}};
        for (int tree : new int[] {MIN, -1, 0, 1, 2, 7, 8, MAX}) {
            for (int what : new int[] {MIN, -1, 0, 1, 2, 3, 4, 5, 6, 7, 8, MAX}) {
                boolean good = in(tree, 0, 1) && in(what, 0, 7);
                due(call("ofTree", tree, what), x.ofTree(tree, what), good ? of[tree][what] : BEYOND);
            }
        }
        x.change(1, 2, 0);
        due("one that isn't STANDING", x.ofTree(1, 5), 0);
        due("LIMIT of one that isn't STANDING", x.ofTree(1, 6), 5);
        x.change(1, 1, 99);
        due("REACHES of one that isn't STANDING", x.ofTree(1, 7), 4);
    }

    private static int limit(int kind, int m, int height, int day) {
        switch (kind) {
            case 0: return 0;
            case 1: return m;
            case 2: return m / 2;
            case 3: return 5;
            case 4: return day % 2 == 1 ? 0 : m;
            case 5: return m / 2 + 20;
            default: return 5 + height / 10;
        }
    }

    private static void limits() {
        promise = 8;
        for (int day = 0; day < 2; day++) {
            for (int kind = 0; kind < 7; kind++) {
                FelledByNames x = new FelledByNames();
                if (day == 1) {
                    x.days(1);
                }
                x.tree(0, 1, 0, 0);
                for (int m = 0; m < 10; m++) {
                    x.become(0, kind * 10 + m);
                    for (int height : new int[] {0, 9, 10, 19, 20, 89, 90, 99}) {
                        x.change(0, 1, height);
                        due("LIMIT of KIND " + kind + ", m " + m + ", HEIGHT " + height + ", DAY " + day,
                            x.ofTree(0, 6), limit(kind, m, height, day));
                    }
                }
            }
        }
    }

    private static void limitsByDay() {
        promise = 8;
        FelledByNames x = new FelledByNames();
        x.tree(49, 1, 0, 0);
        x.tree(19, 1, 0, 0);
        for (int day = 0; day < 10; day++) {
            due("LIMIT of WEDGED on DAY " + day, x.ofTree(0, 6), day % 2 == 0 ? 9 : 0);
            due("LIMIT of BEECH on DAY " + day, x.ofTree(1, 6), 9);
            x.days(1);
        }
        x = aged(9998);
        x.tree(49, 1, 0, 0);
        due("LIMIT of WEDGED on DAY 9998", x.ofTree(0, 6), 9);
        x.days(1);
        due("LIMIT of WEDGED on DAY 9999", x.ofTree(0, 6), 0);
    }

    private static void reaches() {
        promise = 8;
        for (int kind = 0; kind < 7; kind++) {
            FelledByNames x = new FelledByNames();
            x.tree(kind * 10 + 9, 1, 0, 0);
            for (int height = 0; height < 100; height++) {
                x.change(0, 1, height);
                due("REACHES of KIND " + kind + ", HEIGHT " + height, x.ofTree(0, 7), kind == 5 ? 0 : height / 20);
            }
        }
    }

    private static void change() {
        promise = 9;
        int[] most = {15, 99, 1};
        int[] first = {7, 50, 1};
        for (int tree : new int[] {MIN, -1, 0, 1, 2, MAX}) {
            for (int what : new int[] {MIN, -1, 0, 1, 2, 3, MAX}) {
                int high = in(what, 0, 2) ? most[what] : 1;
                for (int v : around(0, high)) {
                    FelledByNames x = new FelledByNames();
                    x.tree(0, 1, 7, 50);
                    x.tree(0, 1, 7, 50);
                    boolean good = in(tree, 0, 1) && in(what, 0, 2) && in(v, 0, high);
                    due(call("change", tree, what, v), x.change(tree, what, v), good ? first[what] : BEYOND);
                    for (int i = 0; i < 6; i++) {
                        boolean changed = good && i / 3 == tree && i % 3 == what;
                        due(call("ofTree", i / 3, 3 + i % 3), x.ofTree(i / 3, 3 + i % 3), changed ? v : first[i % 3]);
                    }
                    if (good) {
                        due("what it was", x.change(tree, what, 0), v);
                    }
                }
            }
        }
    }

    private static void become() {
        promise = 10;
        for (int was = 0; was < 70; was += 3) {
            for (int km = 0; km < 70; km++) {
                FelledByNames x = new FelledByNames();
                x.tree(0, 1, 0, 0);
                x.tree(was, 43, 15, 99);
                x.change(1, 2, km % 2);
                due(call("become", 1, km), x.become(1, km), was / 10);
                int[] of = {km / 10, km % 10, 43, 15, 99, km % 2};
                for (int what = 0; what < 6; what++) {
                    due(call("ofTree", 1, what), x.ofTree(1, what), of[what]);
                }
            }
        }
        FelledByNames x = new FelledByNames();
        x.tree(35, 1, 0, 0);
        for (int tree : new int[] {MIN, -1, 0, 1, 8, MAX}) {
            for (int km : around(0, 69)) {
                boolean good = tree == 0 && in(km, 0, 69);
                if (!good) {
                    due(call("become", tree, km), x.become(tree, km), BEYOND);
                }
            }
        }
        due("KIND stays", x.ofTree(0, 0), 3);
        due("m stays", x.ofTree(0, 1), 5);
    }

    private static boolean isUnder(int kind, int above) {
        for (int k = kind; k >= 0; k = ABOVE[k]) {
            if (k == above) {
                return true;
            }
        }
        return false;
    }

    private static void as() {
        promise = 11;
        FelledByNames x = new FelledByNames();
        for (int kind = 0; kind < 7; kind++) {
            x.tree(kind * 10 + 9 - kind, 1, 0, 0);
        }
        for (int tree : new int[] {MIN, -1, 0, 1, 2, 3, 4, 5, 6, 7, MAX}) {
            for (int kind : new int[] {MIN, -1, 0, 1, 2, 3, 4, 5, 6, 7, MAX}) {
                boolean good = in(tree, 0, 6) && in(kind, 0, 6);
                int want = !good ? BEYOND : isUnder(tree, kind) ? 9 - tree : KIND;
                due(call("as", tree, kind), x.as(tree, kind), want);
            }
        }
        // 49 of KINDS by KINDS, of which 16 hold: each one itself, all but TREE under TREE, three below the middle ones.
        due("told(5)", x.told(5), 49 - 16);
        due("told(1)", x.told(1), 11 * 11 - 49);
    }
}
