/** Promises 15 and 16: each edge of a DAY, and of DAYS by draws, from both sides. */
public final class EdgesOfDaysTest extends Due {
    public static void main(String[] args) {
        howMany();
        lastDays();
        lastLooseDays();
        heldHolds();
        talkAboutBoth();
        restBySeven();
        everyPairByItself();
        grows();
        growsOnLateDays();
        fallsByLimit();
        coolsGrowsFalls();
        fallsOn();
        fallsOnByNumbers();
        hollowFallsOnNothing();
        harmIsHeld();
        woodIsHeld();
        woodByItsNames();
        countsFalls();
        chain();
        draws();
        looseFalls();
        end();
    }

    private static void howMany() {
        for (int n : new int[] {MIN, -1, 0, 1, 2, 39, 40, 41, 59, 60, 61, MAX}) {
            promise = 15;
            FelledByNames x = new FelledByNames();
            due(call("days", n), x.days(n), in(n, 1, 60) ? 0 : BEYOND);
            due("count(1)", x.count(1), in(n, 1, 60) ? n : 0);
            due("told(1)", x.told(1), in(n, 1, 60) ? 0 : 1);
            promise = 16;
            x = new FelledByNames();
            due(call("loose", n), x.loose(n), in(n, 1, 40) ? 0 : BEYOND);
            due("count(1)", x.count(1), in(n, 1, 40) ? n : 0);
            due("told(1)", x.told(1), in(n, 1, 40) ? 0 : 1);
        }
    }

    private static void lastDays() {
        promise = 15;
        FelledByNames x = aged(9939);
        due("count(1)", x.count(1), 9939);
        x.image();
        due("days(60) up to 9999", x.days(60), 0);
        due("count(1)", x.count(1), 9999);
        due("days(1) above 9999", x.days(1), STATE);
        due("days(60) above 9999", x.days(60), STATE);
        for (int n : new int[] {MIN, -1, 0, 61, MAX}) {
            due("BEYOND ahead of STATE, " + n, x.days(n), BEYOND);
        }
        due("count(1)", x.count(1), 9999);
        due("told(3)", x.told(3), 2);
        x.restore();
        x.days(1);
        due("days(60) above 9999", x.days(60), STATE);
        due("count(1)", x.count(1), 9940);
        due("days(59) up to 9999", x.days(59), 0);
        due("count(1)", x.count(1), 9999);
        x.restore();
        x.days(59);
        due("count(1)", x.count(1), 9998);
        due("days(2) above 9999", x.days(2), STATE);
        due("days(1) up to 9999", x.days(1), 0);
        due("count(1)", x.count(1), 9999);
        due("told(3)", x.told(3), 4);
    }

    private static void lastLooseDays() {
        promise = 16;
        FelledByNames x = aged(9959);
        x.image();
        due("loose(40) up to 9999", x.loose(40), 0);
        due("count(1)", x.count(1), 9999);
        int z = x.count(10);
        due("loose(1) above 9999", x.loose(1), STATE);
        due("loose(40) above 9999", x.loose(40), STATE);
        for (int n : new int[] {MIN, -1, 0, 41, 60, MAX}) {
            due("BEYOND ahead of STATE, " + n, x.loose(n), BEYOND);
        }
        due("z stays", x.count(10), z);
        x.restore();
        x.days(1);
        due("loose(40) above 9999", x.loose(40), STATE);
        due("z stays", x.count(10), 1);
        for (int i = 0; i < 6; i++) {
            due("TALK stays", x.talkOf(i), 0);
        }
        due("count(1)", x.count(1), 9960);
        due("loose(39) up to 9999", x.loose(39), 0);
        due("count(1)", x.count(1), 9999);
        due("told(3)", x.told(3), 3);
    }

    private static void heldHolds() {
        promise = 15;
        String[] texts = {"9", "0-9", "0", "10", "0-10", "99", "0-99", "1", "0-1"};
        int[] more = {9, -9, 0, 9, -9, 9, -9, 1, -1};
        for (int i = 0; i < texts.length; i++) {
            FelledByNames x = new FelledByNames();
            read(x, 0, texts[i]);
            for (int v : new int[] {0, 1, 8, 9, 10, 89, 90, 91, 98, 99}) {
                x.hold(3, 2, v);
                x.days(1);
                due(v + " and " + texts[i], x.holds(3, 2), Math.max(0, Math.min(99, v + more[i])));
            }
        }
    }

    private static void talkAboutBoth() {
        promise = 15;
        int[][] talk = {{0, 0}, {0, 1}, {1, 0}, {4, 4}, {4, 5}, {5, 5}, {9, 0}, {0, 9}, {9, 9}};
        for (int[] t : talk) {
            FelledByNames x = new FelledByNames();
            x.talk(0, t[0]);
            x.talk(5, t[1]);
            x.days(1);
            int less = Math.min(9, t[0] + t[1]);
            due("TALK " + t[0] + " and " + t[1], x.holds(0, 5), 20 - less);
            due("TALK " + t[0] + " and " + t[1], x.holds(5, 0), 20 - less);
            due("TALK about one", x.holds(0, 3), 20 - t[0]);
            due("TALK about the other", x.holds(3, 5), 20 - t[1]);
            due("TALK about neither", x.holds(3, 4), 20);
            due("TALK stays", x.talkOf(0), t[0]);
            FelledByNames y = new FelledByNames();
            read(y, 0, "(t=18)*7+(t=0)");
            y.talk(0, t[0]);
            y.talk(5, t[1]);
            y.days(1);
            due("t of the TEXT", y.holds(0, 5), t[0] + t[1] == 18 ? 27 : t[0] + t[1] == 0 ? 21 : 20);
        }
    }

    private static void restBySeven() {
        promise = 15;
        FelledByNames x = new FelledByNames();
        read(x, 0, "d");
        for (int day = 0; day < 22; day++) {
            x.hold(1, 2, 50);
            x.days(1);
            due("d on DAY " + day, x.holds(1, 2), 50 + day % 7);
        }
        FelledByNames y = aged(9995);
        read(y, 0, "d");
        int[] rest = {6, 0, 1, 2};
        for (int i = 0; i < rest.length; i++) {
            y.hold(1, 2, 50);
            y.days(1);
            due("d on DAY " + (9995 + i), y.holds(1, 2), 50 + rest[i]);
        }
    }

    private static void everyPairByItself() {
        promise = 15;
        FelledByNames x = new FelledByNames();
        read(x, 0, "h%5-t");
        for (int i = 0; i < 36; i++) {
            x.hold(i / 6, i % 6, 40 + i);
            x.talk(i % 6, i % 6 / 2);
        }
        x.days(1);
        int sum = 0;
        for (int i = 0; i < 36; i++) {
            if (i / 6 != i % 6) {
                int want = 40 + i + (40 + i) % 5 - i / 6 / 2 - i % 6 / 2;
                due(call("holds", i / 6, i % 6), x.holds(i / 6, i % 6), want);
                sum += want;
            }
        }
        due("count(6)", x.count(6), sum);
    }

    private static int grown(int kind, int day) {
        int[] grows = {0, day % 3 == 0 ? 1 : 0, 0, 1, day % 3 == 0 ? 1 : 0, 0, 2};
        return grows[kind];
    }

    private static void grows() {
        promise = 15;
        for (int kind = 0; kind < 7; kind++) {
            for (int height : new int[] {0, 50, 96, 97, 98, 99}) {
                FelledByNames x = new FelledByNames();
                holdBoth(x, 0, 1, 99);
                x.tree(kind * 10 + 9, 1, 0, height);
                x.tree(kind * 10 + 9, 1, 0, height);
                x.change(1, 2, 0);
                int want = height;
                for (int day = 0; day < 8; day++) {
                    want = Math.min(99, want + grown(kind, day));
                    due("days(1)", x.days(1), 0);
                    due("HEIGHT of KIND " + kind + " from " + height + ", DAY " + day, x.ofTree(0, 4), want);
                }
                due("HEIGHT of one that isn't STANDING", x.ofTree(1, 4), height);
                x.days(60);
                due("HEIGHT of one that isn't STANDING", x.ofTree(1, 4), height);
            }
        }
    }

    private static void growsOnLateDays() {
        promise = 15;
        FelledByNames x = aged(9995);
        holdBoth(x, 0, 1, 99);
        for (int kind = 0; kind < 7; kind++) {
            x.tree(kind * 10, 1, 0, 10);
        }
        int[] want = {10, 10, 10, 10, 10, 10, 10};
        for (int day = 9995; day < 9999; day++) {
            x.days(1);
            for (int kind = 0; kind < 7; kind++) {
                want[kind] += grown(kind, day);
                due("HEIGHT of KIND " + kind + ", DAY " + day, x.ofTree(kind, 4), want[kind]);
            }
        }
    }

    private static int limit(int kind, int m, int height, int day) {
        int[] limits = {0, m, m / 2, 5, day % 2 == 1 ? 0 : m, m / 2 + 20, 5 + height / 10};
        return limits[kind];
    }

    private static void fallsByLimit() {
        promise = 15;
        for (int i = 0; i < 7 * 4 * 7 * 4; i++) {
            int kind = i % 7;
            int m = new int[] {0, 1, 2, 9}[i / 7 % 4];
            int height = new int[] {0, 7, 8, 9, 10, 88, 99}[i / 28 % 7];
            int day = i / 196;
            int most = limit(kind, m, Math.min(99, height + grown(kind, day)), day);
            int[][] hold = {{most, most}, {most + 1, most}, {most, most + 1}, {most + 1, most + 1}, {0, most}, {most, 0},
                {0, 0}, {99, 0}, {0, 99}};
            FelledByNames x = aged(day);
            x.tree(kind * 10 + m, 52, 3, height);
            x.image();
            for (int[] h : hold) {
                x.restore();
                x.hold(5, 2, h[0]);
                x.hold(2, 5, h[1]);
                boolean over = h[0] <= most && h[1] <= most;
                due("KIND " + kind + ", m " + m + ", HEIGHT " + height + ", DAY " + day + ", HOLDS " + h[0] + " and " + h[1],
                    x.days(1), over ? 1 : 0);
                due("STANDING", x.ofTree(0, 5), over ? 0 : 1);
                due("count(5)", x.count(5), over ? 0 : 1);
            }
        }
    }

    private static void coolsGrowsFalls() {
        promise = 15;
        FelledByNames x = new FelledByNames();
        read(x, 0, "0-3");
        x.tree(0, 1, 0, 0);
        holdBoth(x, 0, 1, 3);
        due("it is over behind what cools that DAY", x.days(1), 1);
        x = new FelledByNames();
        read(x, 0, "3");
        x.tree(39, 1, 0, 0);
        holdBoth(x, 0, 1, 3);
        due("it isn't over any more behind what warms that DAY", x.days(1), 0);
        x = new FelledByNames();
        x.tree(39, 1, 5, 19);
        x.tree(9, 23, 6, 19);
        x.set(0, 6);
        holdBoth(x, 0, 1, 5);
        due("REACHES and HEIGHT by what it has grown to that DAY", x.days(1), 2);
        due("HARM", x.count(3), 1);
        due("WOOD", x.count(4), 20 + 19);
        x = new FelledByNames();
        x.tree(0, 1, 5, 20);
        x.tree(39, 23, 6, 19);
        holdBoth(x, 0, 1, 0);
        due("what it falls on has grown, too", x.days(1), 1);
    }

    /** One that falls at a PLACE, another one behind or ahead, a FENCE: all PLACES, HEIGHTS around each edge. */
    private static void fallsOn() {
        promise = 15;
        for (int place = 0; place < 16; place++) {
            for (int height : new int[] {0, 1, 19, 20, 39, 40, 59, 60, 79, 80, 99}) {
                FelledByNames x = new FelledByNames();
                holdBoth(x, 0, 1, 0);
                x.tree(0, 1, place, height);
                x.tree(0, 23, 0, 0);
                x.image();
                for (int i = 0; i < 48; i++) {
                    int there = i % 16;
                    int other = Math.max(0, Math.min(99, height - 1 + i / 16));
                    x.restore();
                    x.change(1, 0, there);
                    x.change(1, 1, other);
                    x.set(0, there);
                    boolean on = there > place && there - place <= height / 20;
                    String what = height + " at " + place + ", on " + other + " at " + there;
                    due(what, x.days(1), on && other < height ? 2 : 1);
                    due("HARM, " + what, x.count(3), on ? 1 : 0);
                    due("WOOD, " + what, x.count(4), height + (on && other < height ? other : 0));
                }
            }
        }
    }

    private static void fallsOnByNumbers() {
        promise = 15;
        FelledByNames x = new FelledByNames();
        x.tree(0, 23, 4, 10);
        x.tree(0, 1, 3, 40);
        x.tree(0, 23, 4, 10);
        x.tree(0, 23, 5, 39);
        x.tree(0, 23, 6, 10);
        x.tree(0, 23, 6, 39);
        x.change(0, 2, 0);
        holdBoth(x, 0, 1, 0);
        due("on each that is STANDING there, and by these on further ones", x.days(1), 4);
        due("count(5)", x.count(5), 0b100000);
        due("WOOD, none of one that isn't STANDING", x.count(4), 40 + 10 + 39 + 10);
        x = new FelledByNames();
        x.tree(0, 1, 0, 20);
        x.tree(0, 1, 1, 19);
        x.set(0, 1);
        holdBoth(x, 0, 1, 0);
        due("one that would fall by itself falls once", x.days(1), 2);
        due("WOOD", x.count(4), 39);
        due("HARM", x.count(3), 1);
        x = new FelledByNames();
        x.tree(0, 23, 1, 19);
        x.tree(0, 1, 0, 20);
        x.tree(0, 45, 2, 5);
        holdBoth(x, 0, 1, 0);
        due("one of a lower number", x.days(1), 2);
        due("count(5)", x.count(5), 0b100);
    }

    private static void hollowFallsOnNothing() {
        promise = 15;
        FelledByNames x = new FelledByNames();
        x.tree(50, 1, 3, 99);
        x.tree(0, 23, 4, 0);
        x.set(0, 4);
        due("HOLLOW REACHES none", x.days(1), 1);
        due("HARM", x.count(3), 0);
        due("WOOD", x.count(4), 99);
        x = new FelledByNames();
        x.tree(20, 1, 3, 99);
        x.tree(0, 23, 4, 0);
        x.set(0, 4);
        holdBoth(x, 0, 1, 0);
        due("OAK REACHES as TREE", x.days(1), 2);
        due("HARM", x.count(3), 1);
    }

    private static void harmIsHeld() {
        promise = 15;
        for (int harm : new int[] {0, 996, 997, 998, 999}) {
            FelledByNames x = new FelledByNames();
            x.tree(0, 1, 0, 20);
            x.tree(0, 1, 0, 20);
            x.set(0, 1);
            x.set(1, harm);
            holdBoth(x, 0, 1, 0);
            due("days(1)", x.days(1), 2);
            due("HARM from " + harm, x.count(3), Math.min(999, harm + 2));
        }
        FelledByNames x = new FelledByNames();
        for (int i = 0; i < 8; i++) {
            x.tree(0, 1, 11 - i % 4, 99);
        }
        holdBoth(x, 0, 1, 0);
        x.days(1);
        due("HARM of the FENCE at 15, by those at 11", x.count(3), 2);
    }

    private static void woodIsHeld() {
        promise = 15;
        for (int wood : new int[] {0, 99800, 99899, 99900, 99901, 99998, 99999}) {
            FelledByNames x = new FelledByNames();
            x.tree(0, 1, 0, 99);
            x.set(2, wood);
            holdBoth(x, 0, 1, 0);
            due("days(1)", x.days(1), 1);
            due("WOOD from " + wood, x.count(4), Math.min(99999, wood + 99));
            x.change(0, 2, 1);
            x.change(0, 1, 1);
            x.days(1);
            due("WOOD, one more", x.count(4), Math.min(99999, wood + 100));
        }
        String[] texts = {"0-1", "0-x", "0", "1", "99", "100", "x*x"};
        int[] gives = {0, 0, 0, 1, 99, 99, 99};
        for (int i = 0; i < texts.length; i++) {
            FelledByNames x = new FelledByNames();
            read(x, 1, texts[i]);
            x.tree(0, 1, 0, 50);
            x.set(2, 7);
            holdBoth(x, 0, 1, 0);
            x.days(1);
            due("WOOD by " + texts[i], x.count(4), 7 + gives[i]);
        }
    }

    private static void woodByItsNames() {
        promise = 15;
        String[] texts = {"x", "m", "p", "x+m*3+p*5"};
        for (int i = 0; i < texts.length; i++) {
            FelledByNames x = new FelledByNames();
            read(x, 1, texts[i]);
            x.tree(38, 1, 3, 8);
            x.tree(0, 23, 4, 0);
            x.set(0, 9);
            x.set(1, 17);
            holdBoth(x, 0, 1, 0);
            x.days(1);
            due("WOOD by " + texts[i], x.count(4), new int[] {9, 8, 3, 9 + 24 + 15}[i]);
        }
    }

    private static void countsFalls() {
        promise = 15;
        FelledByNames x = new FelledByNames();
        int[] pairs = {1, 23, 45, 12, 34, 50, 20, 31};
        for (int i = 0; i < 8; i++) {
            x.tree(0, pairs[i], 0, 10);
            holdBoth(x, pairs[i] / 10, pairs[i] % 10, 7 * i + 1);
        }
        read(x, 0, "0-1");
        due("days(1)", x.days(1), 1);
        due("days(6)", x.days(6), 0);
        due("days(1)", x.days(1), 1);
        due("days(14)", x.days(14), 2);
        due("days(28)", x.days(28), 4);
        due("days(60), all are down", x.days(60), 0);
        due("count(5)", x.count(5), 0);
        due("count(4)", x.count(4), 80);
        x.change(7, 2, 1);
        x.change(3, 2, 1);
        due("days(60), two stood again", x.days(60), 2);
        FelledByNames y = new FelledByNames();
        for (int i = 0; i < 8; i++) {
            y.tree(0, 1, i, 0);
        }
        y.talk(0, 9);
        due("days(2)", y.days(2), 0);
        due("days(1), all at once", y.days(1), 8);
    }

    private static void chain() {
        promise = 15;
        for (int last = 0; last < 8; last++) {
            FelledByNames x = new FelledByNames();
            holdBoth(x, 0, 1, 0);
            for (int i = 0; i < 8; i++) {
                // Numbers run against PLACES in every second one, so that the chain goes both ways.
                int at = last % 2 == 0 ? i : 7 - i;
                int height = at <= last ? 27 - at : 30;
                x.tree(0, at == 0 ? 1 : 23, at, height);
            }
            due("a chain of " + (last + 1), x.days(1), last + 1);
        }
    }

    private static void draws() {
        for (int seed : new int[] {1, 0, -1, 7, MIN, MAX, 123456789, -987654321}) {
            promise = 29;
            FelledByNames x = new FelledByNames();
            due(call("seed", seed), x.seed(seed), 1);
            due("count(10)", x.count(10), seed);
            promise = 16;
            int z = seed;
            int[] talk = new int[6];
            int held = 20;
            for (int day = 0; day < 60; day++) {
                z = (int) ((long) z * 1103515245L + 12345L);
                int draw = (int) ((z & 0xffffffffL) / 256);
                talk[draw % 6] = draw / 8 % 10;
                held = Math.max(0, held - Math.min(9, talk[0] + talk[5]));
                due("loose(1)", x.loose(1), 0);
                due("z", x.count(10), z);
                due("TALK drawn", x.talkOf(draw % 6), draw / 8 % 10);
                due("a DAY behind the draw", x.holds(5, 0), held);
                due("DAY", x.count(1), day + 1);
            }
            for (int i = 0; i < 6; i++) {
                due("TALK of all", x.talkOf(i), talk[i]);
            }
            FelledByNames y = new FelledByNames();
            y.seed(seed);
            y.loose(40);
            y.loose(20);
            due("z by many at once", y.count(10), z);
            due("holds by many at once", y.holds(0, 5), held);
        }
    }

    private static void looseFalls() {
        promise = 16;
        FelledByNames x = new FelledByNames();
        for (int i = 0; i < 8; i++) {
            x.tree(i < 4 ? 50 : 0, 1, 0, 10);
        }
        due("loose(1), those of HOLLOW alone", x.loose(1), 4);
        holdBoth(x, 0, 1, 0);
        due("loose(40), all others", x.loose(40), 4);
        due("loose(40), none are left", x.loose(40), 0);
        due("WOOD", x.count(4), 80);
    }
}
