/** For each promise of the document: ordinary inputs, the edges that it names, wrong inputs. */
public final class PromisesTest extends Due {
    public static void main(String[] args) {
        newObject();
        people();
        trees();
        limits();
        growsAndReaches();
        texts();
        faults();
        laws();
        days();
        falling();
        loose();
        thoughtOfHolds();
        whenAndDown();
        gossipAndAbout();
        talked();
        crash();
        keeper();
        order();
        timberAndSafe();
        odds();
        voices();
        sheets();
        talksAndJudge();
        images();
        tellAndCheck();
        countAndTold();
        errorsChangeNothing();
        end();
    }

    private static void newObject() {
        promise = 1;
        FelledByNames x = new FelledByNames();
        int[] first = {0, 0, 15, 0, 0, 0, 600, 0, 0, 0, 1};
        for (int i = 0; i < first.length; i++) {
            due("count(" + i + ")", x.count(i), first[i]);
        }
        for (int one = 0; one < 6; one++) {
            due("talkOf", x.talkOf(one), 0);
            for (int other = 0; other < 6; other++) {
                due("holds", x.holds(one, other), one == other ? BEYOND : 20);
            }
        }
        due("ofTree(0, 0)", x.ofTree(0, 0), BEYOND);
        due("trace(0)", x.trace(0), NONE);
        for (int i = 0; i < 4; i++) {
            due("judge", x.judge(i), NONE);
        }
        due("restore()", x.restore(), NONE);
        due("check()", x.check(), 0);
        due("seed(1)", x.seed(1), 1);
    }

    private static void people() {
        FelledByNames x = new FelledByNames();
        promise = 2;
        due("hold(0, 5, 99)", x.hold(0, 5, 99), 20);
        due("hold(0, 5, 0)", x.hold(0, 5, 0), 99);
        due("hold(5, 0, 7)", x.hold(5, 0, 7), 20);
        for (int[] bad : new int[][] {{0, 0, 1}, {-1, 0, 1}, {6, 0, 1}, {0, 6, 1}, {0, -1, 1}, {0, 1, -1},
                {0, 1, 100}, {MIN, MAX, MIN}, {6, 6, 0}}) {
            due("hold", x.hold(bad[0], bad[1], bad[2]), BEYOND);
        }
        promise = 3;
        due("holds(0, 5)", x.holds(0, 5), 0);
        due("holds(5, 0)", x.holds(5, 0), 7);
        due("holds(4, 4)", x.holds(4, 4), BEYOND);
        due("holds(-1, 4)", x.holds(-1, 4), BEYOND);
        due("holds(4, 6)", x.holds(4, 6), BEYOND);
        promise = 4;
        due("talk(5, 9)", x.talk(5, 9), 0);
        due("talk(5, 0)", x.talk(5, 0), 9);
        due("talk(5, 4)", x.talk(5, 4), 0);
        due("talk(5, 10)", x.talk(5, 10), BEYOND);
        due("talk(5, -1)", x.talk(5, -1), BEYOND);
        due("talk(6, 0)", x.talk(6, 0), BEYOND);
        due("talk(-1, 0)", x.talk(-1, 0), BEYOND);
        promise = 5;
        due("talkOf(5)", x.talkOf(5), 4);
        due("talkOf(6)", x.talkOf(6), BEYOND);
        due("talkOf(-1)", x.talkOf(-1), BEYOND);
        promise = 6;
        due("set(0, 0)", x.set(0, 0), 15);
        due("set(0, 15)", x.set(0, 15), 0);
        due("set(0, 16)", x.set(0, 16), BEYOND);
        due("set(0, -1)", x.set(0, -1), BEYOND);
        due("set(1, 999)", x.set(1, 999), 0);
        due("set(1, 1000)", x.set(1, 1000), BEYOND);
        due("set(1, 3)", x.set(1, 3), 999);
        due("set(2, 99999)", x.set(2, 99999), 0);
        due("set(2, 100000)", x.set(2, 100000), BEYOND);
        due("set(2, -1)", x.set(2, -1), BEYOND);
        due("set(3, 0)", x.set(3, 0), BEYOND);
        due("set(-1, 0)", x.set(-1, 0), BEYOND);
        due("count(3)", x.count(3), 3);
        due("count(4)", x.count(4), 99999);
    }

    private static void trees() {
        FelledByNames x = new FelledByNames();
        promise = 7;
        for (int[] bad : new int[][] {{-1, 1, 0, 0}, {70, 1, 0, 0}, {MIN, 1, 0, 0}, {0, 0, 0, 0}, {0, 55, 0, 0},
                {0, 6, 0, 0}, {0, 60, 0, 0}, {0, 16, 0, 0}, {0, -1, 0, 0}, {0, MIN, 0, 0}, {0, MAX, 0, 0},
                {0, 1, -1, 0}, {0, 1, 16, 0}, {0, 1, 0, -1}, {0, 1, 0, 100}}) {
            due("tree", x.tree(bad[0], bad[1], bad[2], bad[3]), BEYOND);
        }
        int[] km = {0, 19, 20, 33, 48, 57, 69, 9};
        for (int i = 0; i < 8; i++) {
            due("tree", x.tree(km[i], 54 - i % 2 * 4, i * 2, 99 - i), i);
        }
        due("tree, a ninth", x.tree(0, 1, 0, 0), FULL);
        due("tree, a ninth and wrong", x.tree(0, 0, 0, 0), BEYOND);
        due("count(0)", x.count(0), 8);
        promise = 8;
        int[] tree6 = {6, 9, 54, 12, 93, 1, 14, 4};
        for (int i = 0; i < 8; i++) {
            due("ofTree(6, " + i + ")", x.ofTree(6, i), tree6[i]);
        }
        due("ofTree(6, 8)", x.ofTree(6, 8), BEYOND);
        due("ofTree(6, -1)", x.ofTree(6, -1), BEYOND);
        due("ofTree(8, 0)", x.ofTree(8, 0), BEYOND);
        due("ofTree(-1, 0)", x.ofTree(-1, 0), BEYOND);
        promise = 9;
        due("change(6, 0, 15)", x.change(6, 0, 15), 12);
        due("change(6, 1, 0)", x.change(6, 1, 0), 93);
        due("change(6, 2, 0)", x.change(6, 2, 0), 1);
        due("ofTree(6, 3)", x.ofTree(6, 3), 15);
        due("ofTree(6, 4)", x.ofTree(6, 4), 0);
        due("ofTree(6, 5)", x.ofTree(6, 5), 0);
        due("change(6, 2, 1)", x.change(6, 2, 1), 0);
        for (int[] bad : new int[][] {{6, 0, 16}, {6, 0, -1}, {6, 1, 100}, {6, 1, -1}, {6, 2, 2}, {6, 2, -1},
                {6, 3, 0}, {6, -1, 0}, {8, 0, 0}, {-1, 0, 0}}) {
            due("change", x.change(bad[0], bad[1], bad[2]), BEYOND);
        }
        promise = 10;
        due("become(6, 25)", x.become(6, 25), 6);
        due("become(6, 7)", x.become(6, 7), 2);
        int[] then6 = {0, 7, 54, 15, 0, 1};
        for (int i = 0; i < then6.length; i++) {
            due("ofTree(6, " + i + ")", x.ofTree(6, i), then6[i]);
        }
        due("become(6, 70)", x.become(6, 70), BEYOND);
        due("become(6, -1)", x.become(6, -1), BEYOND);
        due("become(8, 0)", x.become(8, 0), BEYOND);
        x.change(6, 2, 0);
        x.become(6, 60);
        due("ofTree(6, 5) of one that fell", x.ofTree(6, 5), 0);
        promise = 11;
        int[] above = {-1, 0, 0, 0, 1, 2, 3};
        for (int kind = 0; kind < 7; kind++) {
            x.become(0, kind * 10 + kind);
            for (int asked = 0; asked < 7; asked++) {
                boolean is = kind == asked || asked == 0 || above[kind] == asked;
                due("as(0, " + asked + ") of " + kind, x.as(0, asked), is ? kind : KIND);
            }
        }
        due("as(0, 7)", x.as(0, 7), BEYOND);
        due("as(0, -1)", x.as(0, -1), BEYOND);
        due("as(8, 0)", x.as(8, 0), BEYOND);
        due("as(-1, 9)", x.as(-1, 9), BEYOND);
    }

    private static void limits() {
        promise = 8;
        FelledByNames x = new FelledByNames();
        x.tree(9, 1, 0, 99);
        int[] even = {0, 9, 4, 5, 9, 24, 14};
        int[] odd = {0, 9, 4, 5, 0, 24, 14};
        for (int kind = 0; kind < 7; kind++) {
            x.become(0, kind * 10 + 9);
            due("LIMIT of " + kind, x.ofTree(0, 6), even[kind]);
        }
        x.become(0, 9);
        x.days(1);
        for (int kind = 0; kind < 7; kind++) {
            x.become(0, kind * 10 + 9);
            due("LIMIT of " + kind + " on an odd DAY", x.ofTree(0, 6), odd[kind]);
        }
    }

    private static void growsAndReaches() {
        promise = 8;
        FelledByNames x = new FelledByNames();
        for (int kind = 0; kind < 7; kind++) {
            x.tree(kind * 10, 1, 0, 40);
        }
        holdBoth(x, 0, 1, 99);
        int[] reach = {2, 2, 2, 2, 2, 0, 2};
        for (int kind = 0; kind < 7; kind++) {
            due("REACHES of " + kind, x.ofTree(kind, 7), reach[kind]);
        }
        promise = 15;
        x.days(1);
        int[] first = {40, 41, 40, 41, 41, 40, 42};
        for (int kind = 0; kind < 7; kind++) {
            due("HEIGHT of " + kind, x.ofTree(kind, 4), first[kind]);
        }
        x.days(3);
        int[] fourth = {40, 42, 40, 44, 42, 40, 48};
        for (int kind = 0; kind < 7; kind++) {
            due("HEIGHT of " + kind, x.ofTree(kind, 4), fourth[kind]);
        }
        x.change(3, 2, 0);
        x.days(60);
        due("HEIGHT of one that isn't STANDING", x.ofTree(3, 4), 44);
        due("HEIGHT of HILL, held", x.ofTree(6, 4), 99);
        due("HEIGHT of BEECH", x.ofTree(1, 4), 62);
        x.change(1, 1, 19);
        due("REACHES", x.ofTree(1, 7), 0);
        x.change(1, 1, 20);
        due("REACHES", x.ofTree(1, 7), 1);
        x.change(1, 1, 99);
        due("REACHES", x.ofTree(1, 7), 4);
    }

    private static void texts() {
        FelledByNames x = new FelledByNames();
        promise = 12;
        due("feed(0, 0)", x.feed(0, 0), BEYOND);
        due("feed(0, 9)", x.feed(0, 9), BEYOND);
        due("feed(0, -1)", x.feed(0, -1), BEYOND);
        due("feed(-1, 8)", x.feed(-1L, 8), 8);
        for (int i = 2; i <= 6; i++) {
            due("feed", x.feed(0x3131313131313131L, 8), i * 8);
        }
        due("feed(0, 3)", x.feed(0, 3), FULL);
        due("feed(0, 9)", x.feed(0, 9), BEYOND);
        due("feed(0, 2)", x.feed(0, 2), 50);
        due("feed(0, 1)", x.feed(0, 1), FULL);
        promise = 13;
        due("text(2)", x.text(2), BEYOND);
        due("text(-1)", x.text(-1), BEYOND);
        due("count(7)", x.count(7), 50);
        due("text(0) of bytes 255", x.text(0), -10);
        due("count(7)", x.count(7), 0);
        due("text(0) of nothing", x.text(0), -10);
        promise = 12;
        due("feed, the lowest first", x.feed(0x2b68L, 1), 1);
        due("text(0)", x.text(0), 1);
        promise = 13;
        due("law(0, 5, 1, 1)", x.law(0, 5, 1, 1), 5);
        due("a FAULT leaves the TEXT ahead", read(x, 0, "t+"), -12);
        due("law(0, 5, 1, 1)", x.law(0, 5, 1, 1), 5);
        due("text in place of one ahead", read(x, 0, "t"), 1);
        due("law(0, 5, 1, 1)", x.law(0, 5, 1, 1), 1);
        due("law(1, 5, 1, 1)", x.law(1, 5, 1, 1), 5);
        due("told(1)", x.told(1), 6);
    }

    private static void faults() {
        promise = 13;
        FelledByNames x = new FelledByNames();
        String[] whole = {"h", "0", "9999", "0000", "h+t-d", "h*t/d%7", "h<t", "h=t&t>d|d", "!h", "!!!!!h", "(((((h)))))",
            "!(!(!h))", "(h<t)<d", "((h)+(t))*(d)", "(!h)+!(!t)", "!h*!t+!d", "1<2&3<4|5<6", "!!!!!h+!!!!!t"};
        for (String text : whole) {
            due("text of " + text, read(x, 0, text), 1);
        }
        String[] broken = {"", "+", "x", "m", "hh", "h1", "12345", "1h", "h<t<d", "h<t=d", "h+t<d>1", "!!!!!!h", "((((((h",
            "!(!(!(", "h)", "(h", "(h))", "()", "h++t", "h+", "-h", "h ", " h", "(h<t&d=1>2)", "h|&t", "h!t", "h(t)", "H",
            "1+(2*(3", "1+(2*(3)", "h,", "!", "!)", "(1)2", "h\n", "!!!!!(h)", "(((((!h"};
        int[] at = {0, 0, 0, 0, 1, 1, 4, 1, 3, 3, 5, 5, 5, 5, 1, 2, 3, 1, 2, 2, 0, 1, 0, 8, 2, 1, 1, 0, 7, 8, 1, 1, 1, 3, 1,
            5, 5};
        for (int i = 0; i < broken.length; i++) {
            due("text of " + broken[i], read(x, 0, broken[i]), -10 - at[i]);
        }
        due("h in the other USE", read(x, 1, "h"), -10);
        due("t in the other USE", read(x, 1, "x+t"), -12);
        due("its NAMES", read(x, 1, "x+m*p"), 1);
        String fifty = "1+1+1+1+1+1+1+1+1+1+1+1+1+1+1+1+1+1+1+1+1+1+1+12*1";
        due("count(7)", feedAll(x, fifty), 50);
        due("text of 50 bytes", x.text(1), 1);
        due("what it gives", x.law(1, 0, 0, 0), 35);
        due("50 bytes, too early", read(x, 0, fifty.substring(0, 49) + "("), -60);
        due("50 bytes, the last is wrong", read(x, 0, fifty.substring(0, 49) + "+"), -59);
        due("50 bytes, the second is wrong", read(x, 0, "(" + fifty.substring(1, 48) + "-h"), -11);
        due("50 bytes, too early", read(x, 0, "(1" + fifty.substring(1, 47) + "-h"), -60);
    }

    private static int given(FelledByNames x, String text, int a, int b, int c) {
        due("text of " + text, read(x, 0, text), 1);
        return x.law(0, a, b, c);
    }

    private static void laws() {
        promise = 14;
        FelledByNames x = new FelledByNames();
        due("without a TEXT", x.law(0, 50, 3, 6), -3);
        due("without a TEXT, held", x.law(0, 0, 10, 0), -9);
        due("without a TEXT, held", x.law(0, 0, -10, 0), 9);
        due("0 - the least", x.law(0, 0, MIN, 0), -9);
        due("without a TEXT", x.law(1, 50, 3, 6), 50);
        due("without a TEXT, held", x.law(1, 100, 3, 6), 99);
        due("without a TEXT, held", x.law(1, -1, 3, 6), 0);
        due("law(2, ..)", x.law(2, 0, 0, 0), BEYOND);
        due("law(-1, ..)", x.law(-1, 0, 0, 0), BEYOND);
        due("h", given(x, "h", 1, 2, 3), 1);
        due("t", given(x, "t", 1, 2, 3), 2);
        due("d", given(x, "d", 1, 2, 3), 3);
        due("left to right", given(x, "9-3-2", 0, 0, 0), 4);
        due("left to right", given(x, "16/4/2", 0, 0, 0), 2);
        due("left to right", given(x, "17%10*2/7", 0, 0, 0), 2);
        due("* ahead of +", given(x, "1+2*3", 0, 0, 0), 7);
        due("( )", given(x, "(1+2)*3-1", 0, 0, 0), 8);
        due("/ is cut", given(x, "h/t", -7, 2, 0), -3);
        due("% is the rest", given(x, "h%t", -7, 2, 0), -1);
        due("% is the rest", given(x, "h%t", 7, -4, 0), 3);
        due("/ by 0", given(x, "7/(t-t)+1", 0, 5, 0), 1);
        due("% by 0", given(x, "7%(t-t)+1", 0, 5, 0), 1);
        due("the least by -1", given(x, "h/t<0", MIN, -1, 0), 1);
        due("the rest of the least by -1", given(x, "h%t", MIN, -1, 0), 0);
        due("it wraps", given(x, "h+1<0", MAX, 0, 0), 1);
        due("it wraps", given(x, "h*h", 65536, 0, 0), 0);
        due("|", given(x, "h|t", 0, 5, 0), 1);
        due("|", given(x, "h|t", 0, 0, 0), 0);
        due("&", given(x, "h&t", 4, 5, 0), 1);
        due("&", given(x, "h&t", 4, 0, 0), 0);
        due("& ahead of |", given(x, "1|1&0", 0, 0, 0), 1);
        due("<", given(x, "h<t", 4, 5, 0), 1);
        due("<", given(x, "h<t", 5, 5, 0), 0);
        due("=", given(x, "h=t", 5, 5, 0), 1);
        due("=", given(x, "h=t", 5, 4, 0), 0);
        due(">", given(x, "h>t", 5, 4, 0), 1);
        due(">", given(x, "h>t", 5, 5, 0), 0);
        due("< ahead of &", given(x, "1<2&3", 0, 0, 0), 1);
        due("| within ( )", given(x, "(h|t)+(h&t)*3", 5, 0, 0), 1);
        due("!", given(x, "!h", 5, 0, 0), 0);
        due("!", given(x, "!h", 0, 0, 0), 1);
        due("!!", given(x, "!!h", -7, 0, 0), 1);
        due("! binds its Q only", given(x, "!h+1", 5, 0, 0), 1);
        due("held", given(x, "1000", 0, 0, 0), 9);
        due("held", given(x, "0-1000", 0, 0, 0), -9);
        due("text(1)", read(x, 1, "x*10+m+p"), 1);
        due("law(1, 9, 1, 2)", x.law(1, 9, 1, 2), 93);
        due("law(1, 10, 1, 2)", x.law(1, 10, 1, 2), 99);
        due("law(1, -1, 1, 2)", x.law(1, -1, 1, 2), 0);
    }

    private static void days() {
        promise = 15;
        FelledByNames x = new FelledByNames();
        due("days(0)", x.days(0), BEYOND);
        due("days(61)", x.days(61), BEYOND);
        due("days(-1)", x.days(-1), BEYOND);
        x.talk(0, 3);
        x.talk(1, 4);
        x.hold(2, 3, 50);
        due("days(1)", x.days(1), 0);
        due("holds(0, 1)", x.holds(0, 1), 13);
        due("holds(1, 0)", x.holds(1, 0), 13);
        due("holds(0, 2)", x.holds(0, 2), 17);
        due("holds(5, 1)", x.holds(5, 1), 16);
        due("holds(2, 3)", x.holds(2, 3), 50);
        due("days(60)", x.days(60), 0);
        due("holds(0, 1)", x.holds(0, 1), 0);
        due("count(1)", x.count(1), 61);
        due("text", read(x, 0, "d-h%2*t"), 1);
        x.hold(0, 1, 11);
        x.hold(1, 0, 98);
        x.days(1);
        due("holds(0, 1), DAY 61 is 5 by 7", x.holds(0, 1), 9);
        due("holds(1, 0), held", x.holds(1, 0), 99);
        x.hold(0, 1, 5);
        x.days(1);
        due("holds(0, 1), held", x.holds(0, 1), 4);
        FelledByNames v = new FelledByNames();
        read(v, 0, "h/10*2-t*2+d");
        int[][] hold = new int[6][6];
        for (int i = 0; i < 36; i++) {
            v.hold(i / 6, i % 6, i * 2);
            v.talk(i % 6, i % 6);
            hold[i / 6][i % 6] = i * 2;
        }
        for (int day = 0; day < 20; day++) {
            v.days(1);
            for (int i = 0; i < 36; i++) {
                int h = hold[i / 6][i % 6];
                int more = h / 10 * 2 - (i / 6 + i % 6) * 2 + day % 7;
                hold[i / 6][i % 6] = Math.max(0, Math.min(99, h + Math.max(-9, Math.min(9, more))));
                if (i / 6 != i % 6) {
                    due("holds on DAY " + day, v.holds(i / 6, i % 6), hold[i / 6][i % 6]);
                }
            }
        }
        v.hold(0, 1, 50);
        v.image();
        read(v, 0, "h/10*2-t*2+d-5");
        int d = v.count(1) % 7;
        due("then, by another TEXT", v.then(1, 0, 1), 50 + d + 3);
        v.restore();
        due("then, by the TEXT of the IMAGE", v.then(1, 0, 1), 50 + Math.min(9, d + 8));
        FelledByNames y = new FelledByNames();
        for (int i = 0; i < 166; i++) {
            y.days(60);
        }
        due("count(1)", y.count(1), 9960);
        due("days(40)", y.days(40), STATE);
        due("days(61)", y.days(61), BEYOND);
        promise = 16;
        due("loose(40)", y.loose(40), STATE);
        due("loose(41)", y.loose(41), BEYOND);
        due("count(10)", y.count(10), 1);
        promise = 15;
        due("days(39)", y.days(39), 0);
        due("count(1)", y.count(1), 9999);
        due("days(1)", y.days(1), STATE);
        promise = 16;
        due("loose(1)", y.loose(1), STATE);
        FelledByNames w = new FelledByNames();
        for (int i = 0; i < 166; i++) {
            w.days(60);
        }
        due("loose(39)", w.loose(39), 0);
        due("count(1)", w.count(1), 9999);
        promise = 18;
        y.tree(0, 1, 0, 9);
        y.talk(0, 1);
        due("when(0) beyond 9999", y.when(0), 20);
        promise = 17;
        due("then(19, 0, 1) beyond 9999", y.then(19, 0, 1), 1);
    }

    /** Who falls on whom: 0 on 1 and 2; 1 on 3, ahead of 2; 4 is too far, 5 as high, 6 where 0 is. */
    private static FelledByNames ride() {
        FelledByNames x = new FelledByNames();
        x.tree(0, 1, 3, 90);
        x.tree(0, 23, 5, 50);
        x.tree(0, 23, 4, 10);
        x.tree(0, 23, 7, 49);
        x.tree(0, 23, 10, 1);
        x.tree(0, 23, 6, 90);
        x.tree(0, 23, 3, 1);
        holdBoth(x, 0, 1, 0);
        return x;
    }

    private static void falling() {
        promise = 15;
        FelledByNames x = new FelledByNames();
        x.tree(0, 1, 0, 7);
        x.hold(0, 1, 0);
        x.hold(1, 0, 1);
        due("days, not over on both sides", x.days(1), 0);
        x.hold(0, 1, 1);
        x.hold(1, 0, 0);
        due("days, not over on both sides", x.days(1), 0);
        x.become(0, 11);
        due("days, up to LIMIT", x.days(1), 1);
        due("WOOD", x.count(4), 7);
        due("days, none is STANDING", x.days(1), 0);
        x.change(0, 2, 1);
        due("days, one stands again", x.days(1), 1);

        x = ride();
        x.set(0, 7);
        due("days(1)", x.days(1), 4);
        due("count(5)", x.count(5), 0b1110000);
        due("WOOD", x.count(4), 199);
        due("HARM, by 0 and 1", x.count(3), 2);
        x = ride();
        x.set(0, 8);
        x.set(1, 998);
        x.set(2, 99900);
        x.days(1);
        due("WOOD, held", x.count(4), 99999);
        due("HARM, by 3", x.count(3), 999);
        x = ride();
        x.set(1, 999);
        x.set(0, 4);
        x.days(1);
        due("HARM, held", x.count(3), 999);
        x = ride();
        x.set(0, 3);
        x.days(1);
        due("HARM, not at its own PLACE", x.count(3), 0);
        x = ride();
        read(x, 1, "m+p*2");
        x.become(0, 5);
        x.days(1);
        due("WOOD by the TEXT", x.count(4), 11 + 10 + 14 + 8);

        x = new FelledByNames();
        x.tree(0, 1, 15, 99);
        x.tree(0, 23, 0, 5);
        holdBoth(x, 0, 1, 0);
        due("days, nothing behind PLACE 15", x.days(1), 1);

        x = new FelledByNames();
        x.tree(34, 1, 0, 39);
        x.tree(0, 23, 2, 39);
        holdBoth(x, 0, 1, 5);
        due("days, it grows ahead of its fall", x.days(1), 2);
        x = new FelledByNames();
        x.tree(60, 1, 0, 38);
        holdBoth(x, 0, 1, 9);
        due("days, LIMIT by what it has grown to", x.days(1), 1);
        x = new FelledByNames();
        x.tree(49, 1, 0, 1);
        holdBoth(x, 0, 1, 9);
        x.days(1);
        due("WEDGED on an even DAY", x.count(5), 0);
        x.change(0, 2, 1);
        due("WEDGED on an odd DAY", x.days(1), 0);
        due("WEDGED on an even DAY", x.days(1), 1);

        x = new FelledByNames();
        x.tree(0, 23, 1, 10);
        x.tree(0, 1, 0, 20);
        holdBoth(x, 0, 1, 0);
        due("days, one of a lower number is fallen on", x.days(1), 2);
    }

    private static void loose() {
        promise = 16;
        FelledByNames x = new FelledByNames();
        due("loose(0)", x.loose(0), BEYOND);
        due("loose(41)", x.loose(41), BEYOND);
        x.tree(59, 1, 0, 9);
        int z = 1 * 1103515245 + 12345;
        int draw = z >>> 8;
        due("loose(1)", x.loose(1), 1);
        due("count(10)", x.count(10), z);
        due("talkOf", x.talkOf(draw % 6), draw / 8 % 10);
        due("count(1)", x.count(1), 1);
        x.seed(-77);
        x.hold(0, 1, 99);
        x.hold(1, 0, 99);
        z = -77;
        int[] talk = {x.talkOf(0), x.talkOf(1), x.talkOf(2), x.talkOf(3), x.talkOf(4), x.talkOf(5)};
        int held = 99;
        for (int i = 0; i < 40; i++) {
            z = z * 1103515245 + 12345;
            draw = z >>> 8;
            talk[draw % 6] = draw / 8 % 10;
            held = Math.max(0, held - Math.min(9, talk[0] + talk[1]));
        }
        due("loose(40)", x.loose(40), 0);
        due("count(10)", x.count(10), z);
        due("holds(0, 1)", x.holds(0, 1), held);
        for (int i = 0; i < 6; i++) {
            due("talkOf", x.talkOf(i), talk[i]);
        }
        promise = 29;
        due("seed(MIN)", x.seed(MIN), z);
        due("seed(BEYOND)", x.seed(BEYOND), MIN);
        due("seed(0)", x.seed(0), BEYOND);
        due("told(1)", x.told(1), 2);
    }

    private static void thoughtOfHolds() {
        promise = 17;
        FelledByNames x = new FelledByNames();
        x.talk(0, 1);
        due("then(0, 0, 1)", x.then(0, 0, 1), 20);
        due("then(7, 0, 1)", x.then(7, 0, 1), 13);
        due("then(60, 0, 1)", x.then(60, 0, 1), 0);
        due("then(60, 2, 1)", x.then(60, 2, 1), 20);
        x.talk(2, 3);
        due("then(2, 2, 0), TALK about both", x.then(2, 2, 0), 12);
        x.talk(2, 0);
        due("then(61, 2, 1)", x.then(61, 2, 1), BEYOND);
        due("then(-1, 2, 1)", x.then(-1, 2, 1), BEYOND);
        due("then(1, 2, 2)", x.then(1, 2, 2), BEYOND);
        due("then(1, 6, 2)", x.then(1, 6, 2), BEYOND);
        due("then(1, 2, -1)", x.then(1, 2, -1), BEYOND);
        read(x, 0, "d+1");
        x.hold(3, 4, 0);
        due("then(3, 3, 4)", x.then(3, 3, 4), 6);
        due("then(60, 3, 4), held", x.then(60, 3, 4), 99);
        x.days(2);
        x.hold(3, 4, 0);
        due("then(6, 3, 4)", x.then(6, 3, 4), 3 + 4 + 5 + 6 + 7 + 1);
        due("holds(3, 4)", x.holds(3, 4), 0);
        due("count(1)", x.count(1), 2);
        x.image();
        read(x, 0, "0-d-1");
        x.hold(3, 4, 50);
        due("then, another TEXT", x.then(6, 3, 4), 50 - 26);
        x.restore();
        due("then, the TEXT of the IMAGE", x.then(6, 3, 4), 26);
    }

    private static void whenAndDown() {
        promise = 18;
        FelledByNames x = ride();
        x.talk(2, 1);
        holdBoth(x, 2, 3, 60);
        due("when(0)", x.when(0), 1);
        due("when(3)", x.when(3), 1);
        due("when(4)", x.when(4), 60);
        holdBoth(x, 2, 3, 61);
        due("when(4)", x.when(4), NONE);
        x.change(4, 2, 0);
        due("when(4), it isn't STANDING", x.when(4), 0);
        due("when(7)", x.when(7), BEYOND);
        due("when(-1)", x.when(-1), BEYOND);
        due("count(1)", x.count(1), 0);
        promise = 19;
        due("down(0)", x.down(0), 0b0010000);
        due("down(1)", x.down(1), 0b0011111);
        due("down(60)", x.down(60), 0b0011111);
        holdBoth(x, 2, 3, 60);
        due("down(59)", x.down(59), 0b0011111);
        due("down(60)", x.down(60), 0b1111111);
        due("down(61)", x.down(61), BEYOND);
        due("down(-1)", x.down(-1), BEYOND);
        due("count(5)", x.count(5), 0b1101111);
        due("count(4)", x.count(4), 0);
        due("count(3)", x.count(3), 0);
    }

    private static void gossipAndAbout() {
        promise = 20;
        FelledByNames x = new FelledByNames();
        x.tree(0, 1, 0, 9);
        x.tree(0, 12, 0, 9);
        x.tree(0, 34, 0, 9);
        due("gossip(0, 10)", x.gossip(0, 10), 1);
        due("gossip(0, 5)", x.gossip(0, 5), 2);
        due("gossip(0, 3)", x.gossip(0, 3), 4);
        due("gossip(0, 2)", x.gossip(0, 2), NONE);
        due("gossip(0, 30)", x.gossip(0, 30), 1);
        due("gossip(0, 31)", x.gossip(0, 31), BEYOND);
        due("gossip(0, -1)", x.gossip(0, -1), BEYOND);
        due("gossip(3, 1)", x.gossip(3, 1), BEYOND);
        x.talk(0, 9);
        due("gossip by alike TALK, not as it is", x.gossip(0, 10), 1);
        x.talk(0, 0);
        x.change(0, 2, 0);
        due("gossip(0, 0)", x.gossip(0, 0), 0);
        x.change(0, 2, 1);
        read(x, 0, "t*t-9*t");
        due("gossip, it isn't more by more TALK", x.gossip(0, 2), NONE);
        due("gossip, it isn't more by more TALK", x.gossip(0, 3), 1);
        read(x, 0, "0-(t=18)*9");
        due("gossip, with 9 alone", x.gossip(0, 3), 9);
        read(x, 0, "0-(t=20)*9");
        due("gossip, with none", x.gossip(0, 30), NONE);
        FelledByNames y = new FelledByNames();
        y.tree(0, 1, 0, 9);
        y.tree(0, 12, 0, 9);
        y.tree(0, 34, 0, 9);
        promise = 21;
        due("about(0, 0)", y.about(0, 0), 0);
        due("about(1, 3)", y.about(1, 3), 0b000001);
        due("about(2, 3)", y.about(2, 3), 0b000010);
        due("about(3, 3)", y.about(3, 3), 0b000010);
        due("about(5, 3)", y.about(5, 3), 0b001001);
        due("about(7, 3)", y.about(7, 3), 0b001010);
        due("about(7, 2)", y.about(7, 2), NONE);
        due("about(8, 2)", y.about(8, 2), BEYOND);
        due("about(-1, 2)", y.about(-1, 2), BEYOND);
        due("about(7, 31)", y.about(7, 31), BEYOND);
        due("about(7, -1)", y.about(7, -1), BEYOND);
        y.talk(4, 9);
        due("about(7, 3), others as they are", y.about(7, 3), 0b000010);
        y.talk(4, 5);
        due("about(4, 3)", y.about(4, 3), 0b001000);
        read(y, 0, "0-(t=18)*9");
        due("about(1, 3), fewest go ahead of least", y.about(1, 3), 0b000011);
        due("about(3, 3)", y.about(3, 3), 0b000111);
        due("about(7, 30)", y.about(7, 30), 0b011111);
        y.tree(0, 54, 0, 9);
        due("about(15, 30), all", y.about(15, 30), 0b111111);
        due("talkOf(4)", y.talkOf(4), 5);
    }

    private static void talked() {
        promise = 22;
        FelledByNames x = new FelledByNames();
        x.tree(0, 1, 0, 9);
        x.tree(0, 23, 0, 9);
        holdBoth(x, 2, 3, 30);
        due("talked, missing", x.talked(0, 0), NONE);
        fill(x, 0, 8, 0, 1, 5);
        due("talked(0, 0)", x.talked(0, 0), 1);
        due("talked(0, 1)", x.talked(0, 1), 2);
        fill(x, 0, 16, 1, 1, 5);
        due("talked(0, 0)", x.talked(0, 0), 2);
        due("talked(0, 1)", x.talked(0, 1), 0);
        fill(x, 0, 32, 0, 0, 5);
        due("talked(0, 0)", x.talked(0, 0), 7);
        due("talked(0, 1)", x.talked(0, 1), 3);
        fill(x, 0, 32, 1, 0, 5);
        due("talked(0, 0), never", x.talked(0, 0), 0);
        due("talked(0, 1), never", x.talked(0, 1), NONE);
        fill(x, 0, 32, 1, 2, 0);
        due("talked(0, 0), neither 0 nor 1", x.talked(0, 0), 0);
        fill(x, 0, 32, 1, 1, 31);
        due("talked, 31 DAYS", x.talked(0, 0), NONE);
        fill(x, 0, 32, 1, 1, -1);
        due("talked, -1 DAYS", x.talked(0, 0), NONE);
        fill(x, 0, 32, 1, 1, 30);
        due("talked, 30 DAYS", x.talked(0, 0), 1);
        fill(x, 0, 32, 1, 1);
        due("talked, too few", x.talked(0, 0), NONE);
        fill(x, 0, 32, 1, 1, 1, 1);
        due("talked, too many", x.talked(0, 0), NONE);
        fill(x, 0, 32);
        due("talked, none", x.talked(0, 0), NONE);
        due("talked(4, 0)", x.talked(4, 0), BEYOND);
        due("talked(-1, 0)", x.talked(-1, 0), BEYOND);
        due("talked(1, 2)", x.talked(1, 2), BEYOND);
        due("talked(1, -1)", x.talked(1, -1), BEYOND);
        FelledByNames y = new FelledByNames();
        fill(y, 3, 8, 7);
        due("talked, no TREES", y.talked(3, 0), 10);
        due("talked, no TREES", y.talked(3, 1), 0);
    }

    private static void crash() {
        promise = 23;
        FelledByNames x = ride();
        int[] falls = {4, 2, 1, 1, 1, 3, 1};
        for (int i = 0; i < falls.length; i++) {
            due("crash(" + i + ")", x.crash(i), falls[i]);
        }
        due("crash(7)", x.crash(7), BEYOND);
        due("crash(-1)", x.crash(-1), BEYOND);
        due("count(5)", x.count(5), 127);
        due("count(4)", x.count(4), 0);
        x.change(1, 2, 0);
        due("crash(1), it isn't STANDING", x.crash(1), 0);
        due("crash(0), 3 is reached by itself", x.crash(0), 3);
        x.change(0, 1, 60);
        due("crash(0), not any more", x.crash(0), 2);
        x.become(0, 50);
        due("crash of a HOLLOW", x.crash(0), 1);
        FelledByNames y = new FelledByNames();
        for (int i = 0; i < 8; i++) {
            y.tree(0, 1, i, 27 - i);
        }
        due("crash, each by the one ahead", y.crash(0), 8);
        due("crash, from the middle", y.crash(5), 3);
    }

    private static void keeper() {
        promise = 24;
        FelledByNames x = new FelledByNames();
        due("keeper, no TREES", x.keeper(5, 0), 0);
        due("keeper, no TREES", x.keeper(5, 1), 0);
        x.tree(0, 12, 0, 9);
        x.tree(0, 23, 0, 9);
        x.tree(0, 32, 0, 9);
        x.tree(0, 45, 0, 9);
        due("keeper(5, 0), all stand anyway", x.keeper(5, 0), 0);
        due("keeper(5, 1), all stand anyway", x.keeper(5, 1), 4);
        for (int i = 0; i < 6; i++) {
            x.talk(i, 2);
        }
        due("keeper(5, 0)", x.keeper(5, 0), 2);
        due("keeper(5, 1)", x.keeper(5, 1), 3);
        due("keeper(4, 0)", x.keeper(4, 0), 0);
        due("keeper(30, 1)", x.keeper(30, 1), 0);
        due("keeper(30, 0)", x.keeper(30, 0), 0);
        due("keeper(0, 1)", x.keeper(0, 1), 4);
        due("keeper(31, 0)", x.keeper(31, 0), BEYOND);
        due("keeper(-1, 0)", x.keeper(-1, 0), BEYOND);
        due("keeper(5, 2)", x.keeper(5, 2), BEYOND);
        due("keeper(5, -1)", x.keeper(5, -1), BEYOND);
        due("holds(2, 1)", x.holds(2, 1), 20);
        FelledByNames y = new FelledByNames();
        y.tree(0, 1, 0, 9);
        y.tree(0, 20, 0, 9);
        for (int i = 0; i < 6; i++) {
            y.talk(i, 9);
        }
        due("keeper(5, 0)", y.keeper(5, 0), 0);
        due("keeper(5, 1)", y.keeper(5, 1), 2);
        due("keeper(11, 1), 99 at first", y.keeper(10, 1), 2);
        due("keeper(11, 1), 99 at first", y.keeper(11, 1), 0);
    }

    private static void order() {
        promise = 25;
        FelledByNames x = ride();
        x.talk(3, 1);
        holdBoth(x, 2, 3, 60);
        fill(x, 0, 8, 0, 1, 3, 2, 4, 5, 6, 0);
        due("order(0)", x.order(0), 7);
        x.sheet(1, 16, 40);
        due("order(1)", x.order(1), 1);
        fill(x, 1, 32, 0, 1, 3, 2, 5);
        due("order(1)", x.order(1), 4);
        fill(x, 1, 32, 0, 1, 2, 3, 4);
        due("order(1)", x.order(1), 2);
        fill(x, 1, 32, 1, 1, 3, 2, 4);
        due("order(1)", x.order(1), 0);
        fill(x, 1, 32);
        due("order(1), no numbers", x.order(1), 0);
        fill(x, 1, 32, 0, 1, 3, 2, 4, 5, 6, -1, -1);
        due("order(1), numbers behind the last", x.order(1), 7);
        fill(x, 1, 32, 0);
        due("order(1)", x.order(1), 1);
        holdBoth(x, 2, 3, 61);
        due("order(0), 60 DAYS", x.order(0), 4);
        due("order(2)", x.order(2), NONE);
        due("order(4)", x.order(4), BEYOND);
        due("order(-1)", x.order(-1), BEYOND);
        due("count(5)", x.count(5), 127);
    }

    private static void timberAndSafe() {
        promise = 26;
        FelledByNames x = ride();
        x.talk(3, 1);
        due("timber(0)", x.timber(0), 0);
        due("timber(1)", x.timber(1), 199);
        due("timber(19)", x.timber(19), 199);
        due("timber(20)", x.timber(20), 291);
        due("timber(60)", x.timber(60), 291);
        due("timber(61)", x.timber(61), BEYOND);
        due("timber(-1)", x.timber(-1), BEYOND);
        x.set(2, 99900);
        due("timber(1), held", x.timber(1), 99);
        due("count(4)", x.count(4), 99900);
        promise = 27;
        due("safe(0)", x.safe(0), 15);
        due("safe(1)", x.safe(1), 15);
        due("safe(61)", x.safe(61), BEYOND);
        due("safe(-1)", x.safe(-1), BEYOND);
        x.change(4, 0, 11);
        x.change(4, 1, 99);
        due("safe(20)", x.safe(20), 11);
        due("safe(60)", x.safe(60), 11);
        due("safe(19)", x.safe(19), 15);
        due("count(2)", x.count(2), 15);
        FelledByNames y = new FelledByNames();
        for (int i = 0; i < 4; i++) {
            y.tree(0, 1, i * 4, 80);
        }
        y.tree(0, 1, 0, 80);
        holdBoth(y, 0, 1, 0);
        due("safe(1), only PLACE 0 is free", y.safe(1), 0);
        y.tree(0, 23, 9, 60);
        holdBoth(y, 2, 3, 0);
        due("safe(1), of several the greatest", y.safe(1), 0);
        y.set(1, 998);
        due("safe(1)", y.safe(1), 0);
        y.set(1, 999);
        due("safe(1), HARM is held", y.safe(1), 15);
    }

    private static void odds() {
        promise = 28;
        FelledByNames x = new FelledByNames();
        x.tree(0, 1, 0, 9);
        x.tree(55, 23, 0, 9);
        int[][] due = {{0, 1, 10}, {5, 1, 10}, {10, 1, 5}, {40, 1, 2}, {59, 3, 5}, {60, 7, 10}};
        x.talk(0, 1);
        for (int[] d : due) {
            due("odds(0, " + d[0] + ", 0)", x.odds(0, Math.max(1, d[0]), 0), d[1]);
            due("odds(0, " + d[0] + ", 1)", x.odds(0, Math.max(1, d[0]), 1), d[2]);
        }
        due("odds(0, 0, 0)", x.odds(0, 0, 0), 0);
        due("odds(0, 0, 1)", x.odds(0, 0, 1), 1);
        due("odds(1, 1, 0)", x.odds(1, 1, 0), 3);
        due("odds(1, 1, 1)", x.odds(1, 1, 1), 10);
        x.change(0, 2, 0);
        due("odds(0, 0, 0)", x.odds(0, 0, 0), 1);
        due("odds(0, 0, 1)", x.odds(0, 0, 1), 1);
        due("odds(2, 0, 1)", x.odds(2, 0, 1), BEYOND);
        due("odds(-1, 0, 1)", x.odds(-1, 0, 1), BEYOND);
        due("odds(0, 61, 1)", x.odds(0, 61, 1), BEYOND);
        due("odds(0, -1, 1)", x.odds(0, -1, 1), BEYOND);
        due("odds(0, 0, 2)", x.odds(0, 0, 2), BEYOND);
        due("odds(0, 0, -1)", x.odds(0, 0, -1), BEYOND);
        due("holds(2, 3)", x.holds(2, 3), 20);
    }

    private static void traceIs(FelledByNames x, int... bodies) {
        promise = 31;
        due("count(9)", x.count(9), bodies.length);
        for (int i = 0; i < bodies.length; i++) {
            due("trace(" + i + ")", x.trace(i), bodies[i]);
        }
        due("trace(-1)", x.trace(-1), NONE);
        due("trace(" + bodies.length + ")", x.trace(bodies.length), NONE);
        due("trace(MAX)", x.trace(MAX), NONE);
        promise = 30;
    }

    private static void voices() {
        promise = 30;
        FelledByNames x = new FelledByNames();
        x.tree(0, 1, 0, 0);
        x.tree(0, 1, 0, 0);
        x.tree(7, 1, 0, 0);
        // The TREE has number 2 and m 7 throughout.
        due("TREE creaks", x.voice(2, 0, 10), 12);
        traceIs(x, 10);
        due("TREE stands", x.voice(2, 1, 10), 24);
        traceIs(x, 11, 10);
        due("TREE leans", x.voice(2, 2, 10), 3);
        traceIs(x, 12);
        due("TREE tells", x.voice(2, 3, 10), 24 ^ 3);
        traceIs(x, 13, 11, 10, 12);
        x.become(2, 17);
        due("BEECH creaks", x.voice(2, 0, 10), 36);
        traceIs(x, 20, 10);
        due("BEECH tells", x.voice(2, 3, 10), 72 ^ 3);
        traceIs(x, 13, 11, 20, 10, 12);
        x.become(2, 27);
        due("OAK stands", x.voice(2, 1, 10), 24 + 6);
        traceIs(x, 30, 11, 10, 12);
        due("OAK tells", x.voice(2, 3, 10), 30 ^ 3);
        traceIs(x, 13, 30, 11, 10, 12, 12);
        x.become(2, 37);
        due("SAPLING leans", x.voice(2, 2, 10), -3);
        traceIs(x, 40, 12);
        due("SAPLING tells", x.voice(2, 3, 10), 24 ^ -3);
        traceIs(x, 13, 11, 10, 40, 12);
        x.become(2, 47);
        due("WEDGED tells", x.voice(2, 3, 10), (72 ^ 3) - 12);
        traceIs(x, 50, 13, 11, 20, 10, 12, 20, 10);
        x.become(2, 57);
        due("HOLLOW stands", x.voice(2, 1, 10), 26 + 6);
        traceIs(x, 60, 30, 11, 10, 12);
        due("HOLLOW tells", x.voice(2, 3, 10), 32 ^ 3);
        traceIs(x, 13, 60, 30, 11, 10, 12, 12);
        x.become(2, 67);
        due("HILL leans", x.voice(2, 2, 10), -3 ^ 2);
        traceIs(x, 70, 40, 12);
        due("HILL tells", x.voice(2, 3, 10), 24 - (24 ^ (-3 ^ 2)));
        traceIs(x, 71, 11, 10, 13, 11, 10, 70, 40, 12);
        due("it goes round", x.voice(2, 1, MAX), 2);
        due("voice(3, 0, 0)", x.voice(3, 0, 0), BEYOND);
        due("voice(-1, 0, 0)", x.voice(-1, 0, 0), BEYOND);
        due("voice(0, 4, 0)", x.voice(0, 4, 0), BEYOND);
        due("voice(0, -1, 0)", x.voice(0, -1, 0), BEYOND);
        traceIs(x, 11, 10);
        due("any number", x.voice(0, 0, BEYOND), BEYOND);
        due("told(1)", x.told(1), 4);
    }

    private static void sheets() {
        FelledByNames x = new FelledByNames();
        promise = 32;
        due("sheet(0, 8, 0)", x.sheet(0, 8, 0), 1);
        due("sheet(1, 16, 40)", x.sheet(1, 16, 40), 1);
        due("sheet(2, 32, 3)", x.sheet(2, 32, 3), 1);
        due("sheet(3, 0, -5)", x.sheet(3, 0, -5), 1);
        due("sheet(3, 0, 99)", x.sheet(3, 0, 99), 1);
        due("sheet(3, 8, 41)", x.sheet(3, 8, 41), BEYOND);
        due("sheet(3, 8, -1)", x.sheet(3, 8, -1), STATE);
        due("sheet(3, 8, MIN)", x.sheet(3, 8, MIN), STATE);
        due("sheet(3, 9, -1)", x.sheet(3, 9, -1), BEYOND);
        due("sheet(3, -8, 1)", x.sheet(3, -8, 1), BEYOND);
        due("sheet(3, 64, 1)", x.sheet(3, 64, 1), BEYOND);
        due("sheet(4, 8, -1)", x.sheet(4, 8, -1), BEYOND);
        due("sheet(-1, 0, 1)", x.sheet(-1, 0, 1), BEYOND);
        promise = 33;
        due("put(3, 0, 1)", x.put(3, 0, 1), NONE);
        due("put(3, 99, 1)", x.put(3, 99, 1), NONE);
        due("put(4, 0, 1)", x.put(4, 0, 1), BEYOND);
        due("put(-1, 0, 1)", x.put(-1, 0, 1), BEYOND);
        due("put(0, 0, 1)", x.put(0, 0, 1), BEYOND);
        due("put(1, 39, 1)", x.put(1, 39, 1), 1);
        due("put(1, 40, 1)", x.put(1, 40, 1), BEYOND);
        due("put(1, -1, 1)", x.put(1, -1, 1), BEYOND);
        due("put(1, MIN, 1)", x.put(1, MIN, 1), BEYOND);
        x.put(2, 0, 256 + 7);
        due("32 bits", x.talks(2), 0);
        x.sheet(0, 8, 2);
        x.put(0, 0, 256 + 7);
        due("8 bits", x.talks(0), 2);
        due("8 bits", x.talkOf(0), 7);
        x.put(0, 0, 65536 - 1);
        due("8 bits", x.talks(0), 0);
        x.put(1, 0, 65536 * 3 + 9);
        x.put(1, 1, 256 + 9);
        due("16 bits", x.talks(1), 1);
        due("16 bits", x.talkOf(0), 9);
        promise = 32;
        x.sheet(1, 16, 2);
        due("all are 0", x.talks(1), 2);
        due("all are 0", x.talkOf(0), 0);
        x.sheet(1, 0, 0);
        due("it is missing", x.talks(1), NONE);
        promise = 34;
        fill(x, 0, 8, 1, 2, 3, 4, 5);
        due("move, onto itself", x.move(0, 0, 0, 1, 4), 4);
        x.talks(0);
        for (int i = 0; i < 5; i++) {
            due("talkOf", x.talkOf(i), i == 0 ? 1 : i);
        }
        due("move, back", x.move(0, 1, 0, 0, 4), 4);
        x.talks(0);
        due("talkOf(0)", x.talkOf(0), 1);
        due("talkOf(3)", x.talkOf(3), 4);
        due("talkOf(4)", x.talkOf(4), 4);
        x.sheet(1, 8, 2);
        due("move(0, 3, 1, 0, 2)", x.move(0, 3, 1, 0, 2), 2);
        x.talks(1);
        due("talkOf(0)", x.talkOf(0), 4);
        due("talkOf(1)", x.talkOf(1), 4);
        due("move(0, 0, 1, 0, 3)", x.move(0, 0, 1, 0, 3), BEYOND);
        due("move(0, 4, 1, 0, 2)", x.move(0, 4, 1, 0, 2), BEYOND);
        due("move(0, 0, 1, 1, 2)", x.move(0, 0, 1, 1, 2), BEYOND);
        due("move(0, 0, 1, 0, -1)", x.move(0, 0, 1, 0, -1), BEYOND);
        due("move(0, -1, 1, 0, 1)", x.move(0, -1, 1, 0, 1), BEYOND);
        due("move(0, 0, 1, -1, 1)", x.move(0, 0, 1, -1, 1), BEYOND);
        due("move(0, MAX, 1, 0, MAX)", x.move(0, MAX, 1, 0, MAX), BEYOND);
        due("move(0, 1, 1, 0, MAX)", x.move(0, 1, 1, 0, MAX), BEYOND);
        due("move(0, MIN, 1, MIN, MIN)", x.move(0, MIN, 1, MIN, MIN), BEYOND);
        due("move(0, 5, 1, 2, 0)", x.move(0, 5, 1, 2, 0), 0);
        due("move(0, 0, 2, 0, -1)", x.move(0, 0, 2, 0, -1), KIND);
        due("move(0, 0, 3, 0, 1)", x.move(0, 0, 3, 0, 1), NONE);
        due("move(3, 0, 2, 0, 1)", x.move(3, 0, 2, 0, 1), NONE);
        due("move(3, 0, 4, 0, 1)", x.move(3, 0, 4, 0, 1), BEYOND);
        due("move(-1, 0, 3, 0, 1)", x.move(-1, 0, 3, 0, 1), BEYOND);
    }

    private static void talksAndJudge() {
        promise = 35;
        FelledByNames x = new FelledByNames();
        fill(x, 0, 8, 1, 2, 3, 4, 5, 6, 7);
        due("talks(0), for the seventh there is nobody", x.talks(0), 6);
        for (int i = 0; i < 6; i++) {
            due("talkOf", x.talkOf(i), i + 1);
        }
        fill(x, 0, 16, 9, 10, 3);
        due("talks(0)", x.talks(0), 1);
        due("talkOf(0)", x.talkOf(0), 9);
        due("talkOf(2)", x.talkOf(2), 3);
        fill(x, 0, 32, -1);
        due("talks(0)", x.talks(0), 0);
        fill(x, 0, 32);
        due("talks(0)", x.talks(0), 0);
        due("talks(1)", x.talks(1), NONE);
        due("talks(4)", x.talks(4), BEYOND);
        due("talks(-1)", x.talks(-1), BEYOND);
        promise = 36;
        due("judge(0), no TREES", x.judge(0), -1);
        x.tree(0, 1, 0, 50);
        x.tree(0, 1, 0, 99);
        due("judge(0), one lacks", x.judge(0), 0);
        fill(x, 0, 8, 50, 99);
        due("judge(0)", x.judge(0), -1);
        fill(x, 0, 16, 50, 98);
        due("judge(0)", x.judge(0), 1);
        fill(x, 0, 16, 51, 98, 7);
        due("judge(0)", x.judge(0), 0);
        fill(x, 0, 32, 50);
        due("judge(0), one lacks", x.judge(0), 1);
        fill(x, 0, 32, 50, 99, 0);
        due("judge(0), one too many", x.judge(0), 2);
        due("judge(1)", x.judge(1), NONE);
        due("judge(4)", x.judge(4), BEYOND);
        due("judge(-1)", x.judge(-1), BEYOND);
    }

    private static void images() {
        FelledByNames x = new FelledByNames();
        promise = 38;
        due("restore()", x.restore(), NONE);
        x.tree(59, 1, 2, 33);
        x.tree(12, 34, 5, 44);
        x.hold(0, 1, 42);
        x.talk(4, 8);
        x.set(0, 3);
        x.set(1, 4);
        x.set(2, 5);
        x.days(2);
        read(x, 0, "h-t+1");
        read(x, 1, "p*3");
        feedAll(x, "t+1");
        x.tell(1);
        x.seed(99);
        x.voice(0, 1, 1);
        fill(x, 0, 8, 5);
        promise = 37;
        due("image()", x.image(), 1);
        int[] counts = new int[11];
        for (int i = 0; i < 11; i++) {
            counts[i] = x.count(i);
        }
        int[][] of = new int[2][8];
        for (int i = 0; i < 16; i++) {
            of[i / 8][i % 8] = x.ofTree(i / 8, i % 8);
        }
        x.become(0, 61);
        x.become(1, 1);
        x.tree(0, 50, 0, 0);
        x.change(1, 2, 0);
        x.change(1, 0, 9);
        x.change(1, 1, 9);
        x.hold(0, 1, 43);
        x.talk(4, 7);
        x.set(0, 13);
        x.set(1, 14);
        x.set(2, 15);
        x.text(0);
        read(x, 1, "7");
        x.loose(9);
        x.check();
        x.tell(7);
        x.tell(8);
        x.voice(1, 3, 1);
        fill(x, 0, 8, 6);
        int bodies = x.count(9);
        promise = 38;
        due("restore()", x.restore(), 2);
        for (int i = 0; i < 11; i++) {
            due("count(" + i + ")", x.count(i), i == 9 ? bodies : counts[i]);
        }
        for (int i = 0; i < 16; i++) {
            due("ofTree", x.ofTree(i / 8, i % 8), of[i / 8][i % 8]);
        }
        due("ofTree(2, 0)", x.ofTree(2, 0), BEYOND);
        due("holds(0, 1)", x.holds(0, 1), 42);
        due("talkOf(4)", x.talkOf(4), 8);
        due("law(0, 7, 3, 0)", x.law(0, 7, 3, 0), 5);
        due("law(1, 0, 0, 9)", x.law(1, 0, 0, 9), 27);
        due("text(0), THE TAPE of the IMAGE", x.text(0), 1);
        due("law(0, 7, 3, 0)", x.law(0, 7, 3, 0), 4);
        due("told(2)", x.told(2), 1);
        due("talks(0), SHEETS stay", x.talks(0), 1);
        due("talkOf(0)", x.talkOf(0), 6);
        due("trace(0), THE TRACE stays", x.trace(0), 13);
        due("restore(), the IMAGE stays", x.restore(), 2);
        due("check(), what waits of the IMAGE", x.check(), 0);
        x.days(5);
        promise = 37;
        due("image()", x.image(), 2);
        x.days(1);
        promise = 38;
        due("restore(), in place of one ahead", x.restore(), 7);
        promise = 37;
        due("image()", x.image(), 3);
    }

    private static void tellAndCheck() {
        FelledByNames x = new FelledByNames();
        promise = 39;
        for (int i = 1; i <= 20; i++) {
            due("tell", x.tell(0), i);
        }
        due("tell, 20 wait", x.tell(0), FULL);
        due("count(8)", x.count(8), 20);
        promise = 40;
        due("check(), no TREES", x.check(), 0);
        due("count(8)", x.count(8), 0);
        due("check(), none wait", x.check(), 0);
        x.tree(0, 1, 0, 0);
        x.tree(0, 23, 0, 0);
        x.talk(0, 9);
        x.talk(2, 5);
        int[] stand = {2, 2, 1, 0, 0};
        for (int bad = 0; bad <= 5; bad++) {
            for (int i = 0; i < 5; i++) {
                x.tell(i == bad ? stand[i] + 1 : stand[i]);
            }
            due("check(), number " + bad + " isn't so", x.check(), bad == 5 ? 0 : bad + 1);
            due("count(8)", x.count(8), 0);
        }
        x.tell(BEYOND);
        due("check()", x.check(), 1);
        due("count(1)", x.count(1), 0);
        due("count(5)", x.count(5), 3);
    }

    private static void countAndTold() {
        FelledByNames x = ride();
        promise = 41;
        x.change(2, 2, 0);
        x.hold(4, 5, 99);
        x.feed(0, 3);
        x.tell(1);
        x.seed(BEYOND);
        x.voice(0, 3, 0);
        int[] are = {7, 0, 15, 0, 0, 0b1111011, 600 - 40 + 79, 3, 1, 4, BEYOND};
        for (int i = 0; i < are.length; i++) {
            due("count(" + i + ")", x.count(i), are[i]);
        }
        due("count(11)", x.count(11), BEYOND);
        due("count(-1)", x.count(-1), BEYOND);
        promise = 42;
        due("told(1)", x.told(1), 2);
        due("told(0)", x.told(0), BEYOND);
        due("told(6)", x.told(6), BEYOND);
        due("told(MIN)", x.told(MIN), BEYOND);
        due("told(1)", x.told(1), 5);
        due("told(2)", x.told(2), 0);
        x.trace(40);
        due("told(2)", x.told(2), 1);
        x.sheet(0, 8, -1);
        due("told(3)", x.told(3), 1);
        x.tree(0, 1, 0, 0);
        x.tree(0, 1, 0, 0);
        due("told(4)", x.told(4), 1);
        x.as(0, 1);
        x.as(0, 2);
        due("told(5)", x.told(5), 2);
        x.text(0);
        due("a FAULT is no ERROR", x.told(1), 5);
        x.image();
        x.restore();
        due("told() after restore()", x.told(5), 2);
    }

    private static void errorsChangeNothing() {
        promise = 42;
        FelledByNames x = ride();
        x.sheet(0, 8, 2);
        x.tell(3);
        x.voice(0, 3, 3);
        x.feed(0x68, 1);
        int[] before = new int[11];
        for (int i = 0; i < 11; i++) {
            before[i] = x.count(i);
        }
        x.hold(0, 1, 100);
        x.talk(0, 10);
        x.set(0, 16);
        x.tree(0, 1, 16, 0);
        x.change(0, 2, 2);
        x.become(0, 70);
        x.feed(0, 9);
        x.text(2);
        x.days(61);
        x.loose(41);
        x.then(61, 0, 1);
        x.gossip(0, 31);
        x.about(128, 1);
        x.voice(0, 4, 0);
        x.sheet(0, 8, 41);
        x.put(0, 2, 1);
        x.move(0, 0, 0, 2, 1);
        for (int i = 0; i < 11; i++) {
            due("count(" + i + ")", x.count(i), before[i]);
        }
        due("told(1)", x.told(1), 17);
        due("talks(0)", x.talks(0), 2);
        due("text(0)", x.text(0), 1);
        due("ofTree(0, 5)", x.ofTree(0, 5), 1);
        due("ofTree(0, 0)", x.ofTree(0, 0), 0);
    }
}
