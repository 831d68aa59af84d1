import java.util.ArrayList;
import java.util.List;
import java.util.Random;

/** Random runs of calls, each answer held against a second, plain reading of the document. */
public final class ModelTest {
    private static final int LOW = -1000000000;
    private static final int RUNS = 1500;
    private static final int CALLS = 200;
    /** What an object answers behind so many calls is free. */
    private static final int MOST_CALLS = 512;
    /** One call for each 8 bytes, of which some texts have more than THE TAPE has room for, and one to read them. */
    private static final int CALLS_OF_A_TEXT = 8;
    private static final String[] TEXTS = {"0-t", "x", "h/9-t", "x*m/4", "d-t", "(h>10)*(0-t)-1", "p*3+x%7", "!t-d%3",
        "0-(t>8)*9", "h<t|d=2", "x>20&m", "((x+1)*2)/3", "9-h/5", "0-9", "99", "t*d-h", "(d%2)*(0-3)", "0-t*(h>5)"};

    private static int used = 0;

    public static void main(String[] args) {
        int wrong = 0;
        for (int run = 0; run < RUNS && wrong < 10; run++) {
            if (!run(run)) {
                wrong++;
            }
        }
        System.out.println(wrong == 0 ? RUNS + " runs are as the model's" : wrong + " runs are not as the model's");
        if (wrong != 0) {
            System.exit(1);
        }
    }

    private static boolean run(int seed) {
        Random random = new Random(seed);
        FelledByNames x = new FelledByNames();
        Model model = new Model();
        StringBuilder calls = new StringBuilder();
        boolean wild = seed % 5 == 0;
        boolean late = seed % 7 == 3;
        int most = seed % 10 < 2 ? MOST_CALLS : CALLS;
        used = 0;
        if (late) {
            beginAtTheEdge(x, model, random);
        }
        if (!wild) {
            for (int i = 3 + random.nextInt(6); i > 0; i--) {
                int[] call = {5, random.nextInt(70), Model.anyPair(random), random.nextInt(16), random.nextInt(100), 0};
                answer(x, call, 0);
                model.call(call, 0);
            }
        }
        if (late) {
            most = Math.min(most + used, MOST_CALLS);
        }
        while (used < most) {
            int[] a = new int[6];
            a[0] = random.nextInt(44);
            long word = random.nextLong();
            if (most - used < CALLS_OF_A_TEXT) {
                a[0] = Math.min(a[0], 41);
            } else if (a[0] >= 42 || a[0] == 10 && random.nextInt(4) != 0) {
                if (!sameText(x, model, random)) {
                    System.out.println("run " + seed + ": a text differs, behind" + calls);
                    return false;
                }
                continue;
            }
            for (int k = 1; k < 6; k++) {
                a[k] = argument(a[0], k, random, wild);
            }
            int got = answer(x, a, word);
            int want = model.call(a, word);
            calls.append(" ").append(java.util.Arrays.toString(a)).append("=").append(want);
            if (got != want) {
                System.out.println("run " + seed + ": answered " + got + ", behind" + calls);
                return false;
            }
        }
        return true;
    }

    /** DAY, HARM and WOOD so near to where they end that the run gets there; some 170 of an object's 512 calls. */
    private static void beginAtTheEdge(FelledByNames x, Model model, Random random) {
        for (int left = 9999 - random.nextInt(40); left > 0; left -= 60) {
            int[] days = {13, Math.min(60, left), 0, 0, 0, 0};
            answer(x, days, 0);
            model.call(days, 0);
        }
        int[][] sets = {{4, 0, random.nextInt(16), 0, 0, 0}, {4, 1, 999 - random.nextInt(3), 0, 0, 0},
            {4, 2, 99999 - random.nextInt(200), 0, 0, 0}};
        for (int[] set : sets) {
            answer(x, set, 0);
            model.call(set, 0);
        }
    }

    private static int argument(int act, int k, Random random, boolean wild) {
        int[] edges = {-1, 0, 1, 5, 6, 7, 8, 9, 15, 16, 19, 20, 30, 31, 39, 40, 41, 60, 61, 69, 70, 98, 99, 100, 999, 1000,
            99999, 100000, Integer.MIN_VALUE, Integer.MAX_VALUE, -1000000001};
        int pick = random.nextInt(wild ? 3 : 40);
        if (pick == 0) {
            return edges[random.nextInt(edges.length)];
        }
        return Model.usual(act, k, random);
    }

    private static boolean sameText(FelledByNames x, Model model, Random random) {
        StringBuilder text = new StringBuilder(random.nextInt(3) == 0 ? grown(random, 0) : TEXTS[random.nextInt(TEXTS.length)]);
        if (random.nextInt(3) == 0 && text.length() > 0) {
            String signs = "htdxmp0123456789|&<=>+-*/%!()() ~";
            int at = random.nextInt(text.length() + 1);
            int how = random.nextInt(3);
            if (how > 0 && at < text.length()) {
                text.deleteCharAt(at);
            }
            if (how < 2) {
                text.insert(at, signs.charAt(random.nextInt(signs.length())));
            }
        }
        text.setLength(Math.min(text.length(), 8 * (CALLS_OF_A_TEXT - 1)));
        for (int i = 0; i < text.length(); i += 8) {
            int n = Math.min(8, text.length() - i);
            long word = random.nextLong();
            for (int k = 0; k < n; k++) {
                word = word & ~(255L << 8 * k) | (long) text.charAt(i + k) << 8 * k;
            }
            used++;
            if (x.feed(word, n) != model.call(new int[] {10, 0, n, 0, 0, 0}, word)) {
                return false;
            }
        }
        int use = random.nextInt(2);
        used++;
        if (x.text(use) != model.call(new int[] {11, use, 0, 0, 0, 0}, 0)) {
            System.out.println("text of " + text);
            return false;
        }
        return true;
    }

    private static String grown(Random random, int depth) {
        int pick = random.nextInt(depth > 4 ? 4 : 12);
        String signs = "|&<=>+-*/%";
        String names = random.nextBoolean() ? "htd" : "xmp";
        if (pick < 2) {
            return "" + random.nextInt(pick == 0 ? 10 : 10000);
        }
        if (pick < 4) {
            return "" + names.charAt(random.nextInt(3));
        }
        if (pick == 4) {
            return "!" + grown(random, depth + 1);
        }
        if (pick < 7) {
            return "(" + grown(random, depth + 1) + ")";
        }
        return grown(random, depth + 1) + signs.charAt(random.nextInt(signs.length())) + grown(random, depth + 1);
    }

    private static int answer(FelledByNames x, int[] a, long word) {
        used++;
        switch (a[0]) {
            case 0: return x.hold(a[1], a[2], a[3]);
            case 1: return x.holds(a[1], a[2]);
            case 2: return x.talk(a[1], a[2]);
            case 3: return x.talkOf(a[1]);
            case 4: return x.set(a[1], a[2]);
            case 5: return x.tree(a[1], a[2], a[3], a[4]);
            case 6: return x.ofTree(a[1], a[2]);
            case 7: return x.change(a[1], a[2], a[3]);
            case 8: return x.become(a[1], a[2]);
            case 9: return x.as(a[1], a[2]);
            case 10: return x.feed(word, a[2]);
            case 11: return x.text(a[1]);
            case 12: return x.law(a[1], a[2], a[3], a[4]);
            case 13: return x.days(a[1]);
            case 14: return x.loose(a[1]);
            case 15: return x.then(a[1], a[2], a[3]);
            case 16: return x.when(a[1]);
            case 17: return x.down(a[1]);
            case 18: return x.gossip(a[1], a[2]);
            case 19: return x.about(a[1], a[2]);
            case 20: return x.talked(a[1], a[2]);
            case 21: return x.crash(a[1]);
            case 22: return x.keeper(a[1], a[2]);
            case 23: return x.order(a[1]);
            case 24: return x.timber(a[1]);
            case 25: return x.safe(a[1]);
            case 26: return x.odds(a[1], a[2], a[3]);
            case 27: return x.seed(a[1]);
            case 28: return x.voice(a[1], a[2], a[3]);
            case 29: return x.trace(a[1]);
            case 30: return x.sheet(a[1], a[2], a[3]);
            case 31: return x.put(a[1], a[2], a[3]);
            case 32: return x.move(a[1], a[2], a[3], a[4], a[5]);
            case 33: return x.talks(a[1]);
            case 34: return x.judge(a[1]);
            case 35: return x.image();
            case 36: return x.restore();
            case 37: return x.tell(a[1]);
            case 38: return x.check();
            case 39: return x.count(a[1]);
            case 40: return x.told(a[1]);
            default: return x.count(a[1]);
        }
    }

    private interface Formula {
        int of(int a, int b, int c);
    }

    /** All that days change; thoughts work on copies. */
    private static final class Hill {
        int[][] holds = new int[6][6];
        int[] talk = new int[6];
        int day = 0;
        int fence = 15;
        int harm = 0;
        int wood = 0;
        int z = 1;
        /** KIND, m, ONE, OTHER, PLACE, HEIGHT, STANDING. */
        List<int[]> trees = new ArrayList<>();
        List<Integer> fell = new ArrayList<>();
        Formula cools = (h, t, d) -> 0 - t;
        Formula woods = (x, m, p) -> x;

        Hill() {
            for (int[] row : holds) {
                java.util.Arrays.fill(row, 20);
            }
        }

        Hill copy() {
            Hill copy = new Hill();
            for (int i = 0; i < 6; i++) {
                copy.holds[i] = holds[i].clone();
            }
            copy.talk = talk.clone();
            copy.day = day;
            copy.fence = fence;
            copy.harm = harm;
            copy.wood = wood;
            copy.z = z;
            for (int[] tree : trees) {
                copy.trees.add(tree.clone());
            }
            copy.cools = cools;
            copy.woods = woods;
            return copy;
        }

        static int limit(int[] tree, int day) {
            int[] limits = {0, tree[1], tree[1] / 2, 5, day % 2 == 1 ? 0 : tree[1], tree[1] / 2 + 20, 5 + tree[5] / 10};
            return limits[tree[0]];
        }

        static int reach(int[] tree) {
            return tree[0] == 5 ? 0 : tree[5] / 20;
        }

        int cooled(int h, int t, int d) {
            return Math.max(-9, Math.min(9, cools.of(h, t, d)));
        }

        int sawn(int x, int m, int p) {
            return Math.max(0, Math.min(99, woods.of(x, m, p)));
        }

        void pass(int n) {
            for (int i = 0; i < n; i++) {
                day();
            }
        }

        void day() {
            for (int i = 0; i < 6; i++) {
                for (int j = 0; j < 6; j++) {
                    int next = holds[i][j] + cooled(holds[i][j], talk[i] + talk[j], day % 7);
                    holds[i][j] = next < 0 ? 0 : next > 99 ? 99 : next;
                }
            }
            int beech = day % 3 == 0 ? 1 : 0;
            int[] grows = {0, beech, 0, 1, beech, 0, 2};
            for (int[] tree : trees) {
                if (tree[6] == 1) {
                    tree[5] = Math.min(99, tree[5] + grows[tree[0]]);
                }
            }
            for (int i = 0; i < trees.size(); i++) {
                int[] tree = trees.get(i);
                if (tree[6] == 1 && Math.max(holds[tree[2]][tree[3]], holds[tree[3]][tree[2]]) <= limit(tree, day)) {
                    fall(i);
                }
            }
            day++;
        }

        void fall(int number) {
            int[] tree = trees.get(number);
            tree[6] = 0;
            fell.add(number);
            wood = Math.min(99999, wood + sawn(tree[5], tree[1], tree[4]));
            for (int i = 1; i <= reach(tree); i++) {
                if (fence == tree[4] + i) {
                    harm = Math.min(999, harm + 1);
                }
            }
            for (int i = 0; i < trees.size(); i++) {
                int[] next = trees.get(i);
                int far = next[4] - tree[4];
                if (next[6] == 1 && far >= 1 && far <= reach(tree) && next[5] < tree[5]) {
                    fall(i);
                }
            }
        }

        int standing() {
            int set = 0;
            for (int i = 0; i < trees.size(); i++) {
                set |= trees.get(i)[6] << i;
            }
            return set;
        }
    }

    private static final class Model {
        Hill hill = new Hill();
        List<Integer> tape = new ArrayList<>();
        List<Integer> waiting = new ArrayList<>();
        List<Integer> bodies = new ArrayList<>();
        long[][] sheets = new long[4][];
        int[] bits = new int[4];
        int[] errors = new int[6];
        int images = 0;
        Hill keptHill;
        List<Integer> keptTape;
        List<Integer> keptWaiting;

        static int anyPair(Random random) {
            int one = random.nextInt(3) == 0 ? random.nextInt(6) : random.nextInt(3);
            int other = (one + 1 + random.nextInt(5)) % 6;
            return one * 10 + other;
        }

        /** An argument that most often is no ERROR. */
        static int usual(int act, int k, Random random) {
            int[][] most = {{6, 6, 26}, {6, 6}, {6, 4}, {6}, {3, 16}, {70, -2, 16, 100}, {7, 8}, {7, 3, 2}, {7, 70}, {7, 7},
                {0, 9}, {2}, {2, 100, 20, 16}, {6}, {4}, {61, 6, 6}, {7}, {61}, {7, 31}, {60, 31}, {4, 2}, {7}, {31, 2},
                {4}, {61}, {61}, {7, 61, 2}, {1000}, {7, 4, 100}, {14}, {4, -3, 10}, {4, 9, 9}, {4, 5, 4, 5, 5}, {4}, {4},
                {}, {}, {9}, {}, {11}, {6}, {11}};
            int[] of = most[act];
            if (k > of.length) {
                return 0;
            }
            int max = of[k - 1];
            if (max == -2) {
                return anyPair(random);
            }
            if (max == -3) {
                return new int[] {8, 16, 32, 8, 16, 32, 0}[random.nextInt(7)];
            }
            return max == 0 ? 0 : random.nextInt(max);
        }

        int error(int k) {
            errors[k]++;
            return LOW - k;
        }

        boolean in(int v, int low, int high) {
            return low <= v && v <= high;
        }

        boolean two(int one, int other) {
            return in(one, 0, 5) && in(other, 0, 5) && one != other;
        }

        int call(int[] a, long word) {
            if (a[0] <= 9) {
                return early(a);
            }
            if (a[0] <= 17) {
                return middle(a, word);
            }
            return a[0] <= 26 ? thoughts(a) : late(a);
        }

        int early(int[] a) {
            int count = hill.trees.size();
            boolean tree = in(a[1], 0, count - 1);
            int was;
            switch (a[0]) {
                case 0:
                    if (!two(a[1], a[2]) || !in(a[3], 0, 99)) return error(1);
                    was = hill.holds[a[1]][a[2]];
                    hill.holds[a[1]][a[2]] = a[3];
                    return was;
                case 1:
                    return two(a[1], a[2]) ? hill.holds[a[1]][a[2]] : error(1);
                case 2:
                    if (!in(a[1], 0, 5) || !in(a[2], 0, 9)) return error(1);
                    was = hill.talk[a[1]];
                    hill.talk[a[1]] = a[2];
                    return was;
                case 3:
                    return in(a[1], 0, 5) ? hill.talk[a[1]] : error(1);
                case 4:
                    if (!in(a[1], 0, 2) || !in(a[2], 0, new int[] {15, 999, 99999}[a[1]])) return error(1);
                    was = new int[] {hill.fence, hill.harm, hill.wood}[a[1]];
                    if (a[1] == 0) hill.fence = a[2];
                    if (a[1] == 1) hill.harm = a[2];
                    if (a[1] == 2) hill.wood = a[2];
                    return was;
                case 5:
                    if (!in(a[1], 0, 69) || !in(a[2], 0, 55) || !two(a[2] / 10, a[2] % 10) || !in(a[3], 0, 15)
                        || !in(a[4], 0, 99)) return error(1);
                    if (count == 8) return error(4);
                    hill.trees.add(new int[] {a[1] / 10, a[1] % 10, a[2] / 10, a[2] % 10, a[3], a[4], 1});
                    return count;
                case 6:
                    if (!tree || !in(a[2], 0, 7)) return error(1);
                    int[] t = hill.trees.get(a[1]);
                    return new int[] {t[0], t[1], t[2] * 10 + t[3], t[4], t[5], t[6], Hill.limit(t, hill.day),
                        Hill.reach(t)}[a[2]];
                case 7:
                    if (!tree || !in(a[2], 0, 2) || !in(a[3], 0, new int[] {15, 99, 1}[a[2]])) return error(1);
                    was = hill.trees.get(a[1])[4 + a[2]];
                    hill.trees.get(a[1])[4 + a[2]] = a[3];
                    return was;
                case 8:
                    if (!tree || !in(a[2], 0, 69)) return error(1);
                    was = hill.trees.get(a[1])[0];
                    hill.trees.get(a[1])[0] = a[2] / 10;
                    hill.trees.get(a[1])[1] = a[2] % 10;
                    return was;
                default:
                    if (!tree || !in(a[2], 0, 6)) return error(1);
                    String[] chains = {"0", "10", "20", "30", "410", "520", "630"};
                    boolean is = chains[hill.trees.get(a[1])[0]].contains("" + a[2]);
                    return is ? hill.trees.get(a[1])[1] : error(5);
            }
        }

        int middle(int[] a, long word) {
            switch (a[0]) {
                case 10:
                    if (!in(a[2], 1, 8)) return error(1);
                    if (tape.size() + a[2] > 50) return error(4);
                    for (int i = 0; i < a[2]; i++) {
                        tape.add((int) (word & 255));
                        word >>= 8;
                    }
                    return tape.size();
                case 11:
                    if (!in(a[1], 0, 1)) return error(1);
                    StringBuilder text = new StringBuilder();
                    for (int b : tape) {
                        text.append((char) b);
                    }
                    tape.clear();
                    int fault = faultOf(text.toString(), a[1] == 0 ? "htd" : "xmp");
                    if (fault >= 0) return -10 - fault;
                    Formula formula = formulaOf(text.toString(), a[1] == 0 ? "htd" : "xmp");
                    if (a[1] == 0) hill.cools = formula;
                    if (a[1] == 1) hill.woods = formula;
                    return 1;
                case 12:
                    if (!in(a[1], 0, 1)) return error(1);
                    return a[1] == 0 ? hill.cooled(a[2], a[3], a[4]) : hill.sawn(a[2], a[3], a[4]);
                case 13:
                    if (!in(a[1], 1, 60)) return error(1);
                    if (hill.day + a[1] > 9999) return error(3);
                    int stood = Integer.bitCount(hill.standing());
                    hill.pass(a[1]);
                    return stood - Integer.bitCount(hill.standing());
                case 14:
                    if (!in(a[1], 1, 40)) return error(1);
                    if (hill.day + a[1] > 9999) return error(3);
                    int before = Integer.bitCount(hill.standing());
                    for (int i = 0; i < a[1]; i++) {
                        hill.z = hill.z * 1103515245 + 12345;
                        hill.talk[(hill.z >>> 8) % 6] = (hill.z >>> 8) / 8 % 10;
                        hill.day();
                    }
                    return before - Integer.bitCount(hill.standing());
                case 15:
                    if (!in(a[1], 0, 60) || !two(a[2], a[3])) return error(1);
                    return after(a[1]).holds[a[2]][a[3]];
                case 16:
                    if (!in(a[1], 0, hill.trees.size() - 1)) return error(1);
                    Hill gone = hill.copy();
                    for (int i = 0; i <= 60; i++) {
                        if (gone.trees.get(a[1])[6] == 0) return i;
                        gone.day();
                    }
                    return error(2);
                default:
                    if (!in(a[1], 0, 60)) return error(1);
                    return (1 << hill.trees.size()) - 1 - after(a[1]).standing();
            }
        }

        Hill after(int n) {
            Hill copy = hill.copy();
            copy.pass(n);
            return copy;
        }

        int thoughts(int[] a) {
            int count = hill.trees.size();
            boolean tree = in(a[1], 0, count - 1);
            switch (a[0]) {
                case 18:
                    if (!tree || !in(a[2], 0, 30)) return error(1);
                    for (int v = 0; v <= 9; v++) {
                        Hill copy = hill.copy();
                        copy.talk[hill.trees.get(a[1])[2]] = v;
                        copy.talk[hill.trees.get(a[1])[3]] = v;
                        copy.pass(a[2]);
                        if (copy.trees.get(a[1])[6] == 0) return v;
                    }
                    return error(2);
                case 19:
                    return about(a[1], a[2]);
                case 20:
                    return talked(a[1], a[2]);
                case 21:
                    if (!tree) return error(1);
                    if (hill.trees.get(a[1])[6] == 0) return 0;
                    Hill crashed = hill.copy();
                    crashed.fall(a[1]);
                    return Integer.bitCount(hill.standing()) - Integer.bitCount(crashed.standing());
                case 22:
                    return keeper(a[1], a[2]);
                case 23:
                    if (!in(a[1], 0, 3)) return error(1);
                    if (sheets[a[1]] == null) return error(2);
                    List<Integer> fell = after(60).fell;
                    int right = 0;
                    for (int i = 0; i < sheets[a[1]].length && i < fell.size(); i++) {
                        if (sheets[a[1]][i] != fell.get(i)) break;
                        right++;
                    }
                    return right;
                case 24:
                    return in(a[1], 0, 60) ? after(a[1]).wood - hill.wood : error(1);
                case 25:
                    if (!in(a[1], 0, 60)) return error(1);
                    int best = -1;
                    int least = 1000;
                    for (int place = 0; place < 16; place++) {
                        Hill copy = hill.copy();
                        copy.fence = place;
                        copy.pass(a[1]);
                        if (copy.harm <= least) {
                            least = copy.harm;
                            best = place;
                        }
                    }
                    return best;
                default:
                    return odds(a[1], a[2], a[3]);
            }
        }

        int about(int trees, int n) {
            if (!in(trees, 0, (1 << hill.trees.size()) - 1) || !in(n, 0, 30)) return error(1);
            int best = -1;
            for (int set = 0; set < 64; set++) {
                if (best >= 0 && Integer.bitCount(set) >= Integer.bitCount(best)) continue;
                Hill copy = hill.copy();
                for (int i = 0; i < 6; i++) {
                    if ((set & 1 << i) != 0) copy.talk[i] = 9;
                }
                copy.pass(n);
                if ((copy.standing() & trees) == 0) best = set;
            }
            return best < 0 ? error(2) : best;
        }

        int talked(int sheet, int what) {
            if (!in(sheet, 0, 3) || !in(what, 0, 1)) return error(1);
            long[] row = sheets[sheet];
            int count = hill.trees.size();
            if (row == null || row.length != count + 1 || row[count] < 0 || row[count] > 30) return error(2);
            List<Integer> found = new ArrayList<>();
            for (int v = 0; v <= 9; v++) {
                Hill copy = hill.copy();
                java.util.Arrays.fill(copy.talk, v);
                copy.pass((int) row[count]);
                boolean so = true;
                for (int i = 0; i < count; i++) {
                    so &= row[i] == copy.trees.get(i)[6];
                }
                if (so) found.add(v);
            }
            if (what == 0) return found.size();
            return found.isEmpty() ? error(2) : found.get(0);
        }

        int keeper(int n, int what) {
            if (!in(n, 0, 30) || !in(what, 0, 1)) return error(1);
            int[] many = new int[6];
            int best = 0;
            for (int person = 0; person < 6; person++) {
                Hill copy = hill.copy();
                for (int i = 0; i < 6; i++) {
                    copy.holds[person][i] = 99;
                    copy.holds[i][person] = 99;
                }
                copy.pass(n);
                many[person] = Integer.bitCount(copy.standing());
                if (many[person] > many[best]) best = person;
            }
            return what == 0 ? best : many[best];
        }

        int odds(int tree, int n, int part) {
            if (!in(tree, 0, hill.trees.size() - 1) || !in(n, 0, 60) || !in(part, 0, 1)) return error(1);
            int down = 0;
            int[] asked = hill.trees.get(tree);
            for (int i = 0; i < 10; i++) {
                Hill copy = hill.copy();
                copy.holds[asked[2]][asked[3]] = i * 10;
                copy.holds[asked[3]][asked[2]] = i * 10;
                copy.pass(n);
                down += 1 - copy.trees.get(tree)[6];
            }
            int[] above = {0, 1, 1, 3, 2, 1, 3, 7, 4, 9, 1};
            int[] below = {1, 10, 5, 10, 5, 2, 5, 10, 5, 10, 1};
            return part == 0 ? above[down] : below[down];
        }

        int late(int[] a) {
            switch (a[0]) {
                case 27:
                    int was = hill.z;
                    hill.z = a[1];
                    return was;
                case 28:
                    if (!in(a[1], 0, hill.trees.size() - 1) || !in(a[2], 0, 3)) return error(1);
                    bodies.clear();
                    int[] t = hill.trees.get(a[1]);
                    return say(t[0], t[0], a[2], a[3], a[1], t[1]);
                case 29:
                    return in(a[1], 0, Math.min(40, bodies.size()) - 1) ? bodies.get(a[1]) : error(2);
                case 35:
                    keptHill = hill.copy();
                    keptTape = new ArrayList<>(tape);
                    keptWaiting = new ArrayList<>(waiting);
                    return ++images;
                case 36:
                    if (images == 0) return error(2);
                    hill = keptHill.copy();
                    tape = new ArrayList<>(keptTape);
                    waiting = new ArrayList<>(keptWaiting);
                    return hill.day;
                case 37:
                    if (waiting.size() == 20) return error(4);
                    waiting.add(a[1]);
                    return waiting.size();
                case 38:
                    int answer = 0;
                    for (int i = waiting.size() - 1; i >= 0; i--) {
                        if (Integer.bitCount(after(i + 1).standing()) != waiting.get(i)) answer = 1 + i;
                    }
                    waiting.clear();
                    return answer;
                case 40:
                    return in(a[1], 1, 5) ? errors[a[1]] : error(1);
                case 39:
                case 41:
                    return counted(a[1]);
                default:
                    return onSheets(a);
            }
        }

        int counted(int what) {
            int sum = 0;
            for (int i = 0; i < 6; i++) {
                for (int j = 0; j < 6; j++) {
                    sum += i == j ? 0 : hill.holds[i][j];
                }
            }
            int[] all = {hill.trees.size(), hill.day, hill.fence, hill.harm, hill.wood, hill.standing(), sum, tape.size(),
                waiting.size(), bodies.size(), hill.z};
            return in(what, 0, 10) ? all[what] : error(1);
        }

        int onSheets(int[] a) {
            if (!in(a[1], 0, 3)) return error(1);
            if (a[0] == 30) {
                if (a[2] == 0) {
                    sheets[a[1]] = null;
                    return 1;
                }
                if (a[2] != 8 && a[2] != 16 && a[2] != 32) return error(1);
                if (a[3] < 0) return error(3);
                if (a[3] > 40) return error(1);
                sheets[a[1]] = new long[a[3]];
                bits[a[1]] = a[2];
                return 1;
            }
            if (a[0] == 32 && !in(a[3], 0, 3)) return error(1);
            long[] row = sheets[a[1]];
            if (row == null || a[0] == 32 && sheets[a[3]] == null) return error(2);
            if (a[0] == 31) {
                if (!in(a[2], 0, row.length - 1)) return error(1);
                row[a[2]] = a[3] & (1L << bits[a[1]]) - 1;
                return 1;
            }
            if (a[0] == 32) {
                long[] to = sheets[a[3]];
                if (bits[a[1]] != bits[a[3]]) return error(5);
                if (a[2] < 0 || a[4] < 0 || a[5] < 0 || (long) a[2] + a[5] > row.length
                    || (long) a[4] + a[5] > to.length) return error(1);
                long[] as = row.clone();
                for (int i = 0; i < a[5]; i++) {
                    to[a[4] + i] = as[a[2] + i];
                }
                return a[5];
            }
            if (a[0] == 33) {
                int many = 0;
                for (long v : row) {
                    if (many == 6 || v > 9) break;
                    hill.talk[many++] = (int) v;
                }
                return many;
            }
            for (int i = 0; i < Math.max(row.length, hill.trees.size()); i++) {
                if (i >= row.length || i >= hill.trees.size() || row[i] != hill.trees.get(i)[5]) return i;
            }
            return -1;
        }

        /** The BODY of an act for a KIND, from one KIND of its chain on. */
        int say(int self, int from, int act, int x, int n, int m) {
            int[][] own = {{10, 11, 12, 13}, {20, 0, 0, 0}, {0, 30, 0, 0}, {0, 0, 40, 0}, {0, 0, 0, 50}, {0, 60, 0, 0},
                {0, 0, 70, 71}};
            int[] above = {0, 0, 0, 0, 1, 2, 3};
            while (own[from][act] == 0) {
                from = above[from];
            }
            int up = above[from];
            bodies.add(own[from][act]);
            switch (own[from][act]) {
                case 10: return x + n;
                case 11: return say(self, self, 0, x, n, m) * 2;
                case 12: return x - m;
                case 13: return say(self, self, 1, x, n, m) ^ say(self, self, 2, x, n, m);
                case 20: return say(self, up, 0, x, n, m) * 3;
                case 30: return say(self, up, 1, x, n, m) - say(self, self, 2, 1, n, m);
                case 40: return -say(self, up, 2, x, n, m);
                case 50: return say(self, up, 3, x, n, m) - say(self, self, 0, 2, n, m);
                case 60: return say(self, up, 1, x + 1, n, m);
                case 70: return say(self, up, 2, x, n, m) ^ n;
                default: return say(self, self, 1, x, n, m) - say(self, up, 3, x, n, m);
            }
        }

        /** Walks the bytes with what is open and whether a part is due: -1, or the FAULT. */
        static int faultOf(String text, String names) {
            StringBuilder open = new StringBuilder();
            StringBuilder compared = new StringBuilder("n");
            boolean due = true;
            int digits = 0;
            for (int i = 0; i < text.length(); i++) {
                char c = text.charAt(i);
                int top = compared.length() - 1;
                if (due) {
                    if (c == '!' || c == '(') {
                        if (open.length() == 5) return i;
                        open.append(c);
                        if (c == '(') compared.append("n");
                        continue;
                    }
                    boolean digit = c >= '0' && c <= '9';
                    if (!digit && names.indexOf(c) < 0) return i;
                    digits = digit ? 1 : 0;
                    due = false;
                    dropNots(open);
                } else if (c >= '0' && c <= '9' && digits > 0 && digits < 4) {
                    digits++;
                } else if (c == ')') {
                    if (open.length() == 0) return i;
                    open.setLength(open.length() - 1);
                    compared.setLength(top);
                    digits = 0;
                    dropNots(open);
                } else if ("|&+-*/%".indexOf(c) >= 0) {
                    if (c == '|' || c == '&') compared.setCharAt(top, 'n');
                    due = true;
                } else if ("<=>".indexOf(c) >= 0 && compared.charAt(top) == 'n') {
                    compared.setCharAt(top, 'y');
                    due = true;
                } else {
                    return i;
                }
            }
            return due || open.length() > 0 ? text.length() : -1;
        }

        static void dropNots(StringBuilder open) {
            while (open.length() > 0 && open.charAt(open.length() - 1) == '!') {
                open.setLength(open.length() - 1);
            }
        }

        /** Splits a right TEXT at its last sign of the loosest kind. */
        static Formula formulaOf(String text, String names) {
            for (String signs : new String[] {"|", "&", "<=>", "+-", "*/%"}) {
                int depth = 0;
                for (int i = text.length() - 1; i >= 0; i--) {
                    char c = text.charAt(i);
                    depth += c == ')' ? 1 : c == '(' ? -1 : 0;
                    if (depth == 0 && signs.indexOf(c) >= 0) {
                        return joined(c, formulaOf(text.substring(0, i), names), formulaOf(text.substring(i + 1), names));
                    }
                }
            }
            if (text.charAt(0) == '!') {
                Formula inner = formulaOf(text.substring(1), names);
                return (a, b, c) -> inner.of(a, b, c) == 0 ? 1 : 0;
            }
            if (text.charAt(0) == '(') {
                return formulaOf(text.substring(1, text.length() - 1), names);
            }
            int name = names.indexOf(text.charAt(0));
            if (name >= 0) {
                return (a, b, c) -> new int[] {a, b, c}[name];
            }
            int number = Integer.parseInt(text);
            return (a, b, c) -> number;
        }

        static Formula joined(char sign, Formula left, Formula right) {
            return (a, b, c) -> {
                int l = left.of(a, b, c);
                int r = right.of(a, b, c);
                boolean truth = sign == '|' ? l != 0 | r != 0 : sign == '&' ? l != 0 & r != 0
                    : sign == '<' ? l < r : sign == '=' ? l == r : l > r;
                switch (sign) {
                    case '+': return (int) ((long) l + r);
                    case '-': return (int) ((long) l - r);
                    case '*': return (int) ((long) l * r);
                    case '/': return r == 0 ? 0 : (int) ((long) l / r);
                    case '%': return r == 0 ? 0 : (int) ((long) l % r);
                    default: return truth ? 1 : 0;
                }
            };
        }
    }
}
