import java.util.ArrayList;
import java.util.HashMap;
import java.util.List;
import java.util.Map;

/**
 * An act that answers an ERROR changes nothing but what told() tells; one that only asks changes nothing at all; and one
 * that is taken back leaves nothing behind. Each is held against an object on which it wasn't done, by all that can be seen.
 */
public final class NothingChangesTest extends Due {
    private interface Act {
        int on(FelledByNames x);
    }

    private interface World {
        FelledByNames make();
    }

    private interface Look {
        void at(FelledByNames x, List<Integer> seen);
    }

    private static final World[] WORLDS = {FelledByNames::new, NothingChangesTest::busy, NothingChangesTest::full};
    private static final int NEW = 0;
    private static final int BUSY = 1;
    private static final int CROWDED = 2;
    private static final Look[] LOOKS = {NothingChangesTest::plainly, NothingChangesTest::atTape, NothingChangesTest::atSheets,
        NothingChangesTest::ahead, NothingChangesTest::atImage, NothingChangesTest::atImagesTape};
    private static final Map<Integer, List<Integer>> AS_IT_IS = new HashMap<>();

    public static void main(String[] args) {
        refusedOfHill();
        refusedOfTexts();
        refusedOfDays();
        refusedOfThoughts();
        refusedOfSheets();
        refusedOfWhatIsFull();
        refusedOfWhatIsNew();
        asked();
        takenBack();
        end();
    }

    private static FelledByNames busy() {
        FelledByNames x = new FelledByNames();
        x.tree(14, 1, 3, 90);
        x.tree(25, 23, 2, 50);
        x.hold(0, 1, 33);
        x.talk(1, 2);
        x.set(0, 8);
        read(x, 1, "x/2+p");
        feedAll(x, "d-3");
        x.tell(2);
        x.seed(-77);
        x.image();
        x.tree(36, 34, 6, 20);
        x.tree(47, 45, 6, 19);
        x.tree(68, 50, 15, 99);
        x.change(3, 2, 0);
        x.hold(1, 0, 44);
        x.hold(5, 4, 55);
        x.talk(3, 1);
        x.talk(5, 3);
        x.set(0, 7);
        x.set(1, 5);
        x.set(2, 1234);
        x.text(0);
        read(x, 0, "0-t/2-h%2");
        x.days(3);
        x.seed(99);
        feedAll(x, "h-t*4");
        x.tell(4);
        x.tell(8);
        x.voice(4, 3, 11);
        fill(x, 0, 8, 1, 2, 3);
        fill(x, 1, 16, 9, 8, 7, 6);
        fill(x, 2, 32, 4, 5);
        x.holds(0, 0);
        x.trace(40);
        return x;
    }

    private static FelledByNames full() {
        FelledByNames x = aged(9999);
        x.image();
        for (int i = 0; i < 8; i++) {
            x.tree(i % 7 * 10 + i, i % 2 == 0 ? 1 : 54, 2 * i, 12 * i);
        }
        x.talk(0, 1);
        x.talk(5, 2);
        x.set(1, 999);
        x.set(2, 99999);
        feedAll(x, "1+1+1+1+1+1+1+1+1+1+1+1+1+1+1+1+1+1+1+1+1+1+1+12-h");
        for (int i = 0; i < 20; i++) {
            x.tell(i < 1 ? 7 : 6);
        }
        x.sheet(0, 8, 40);
        x.put(0, 39, 5);
        x.sheet(1, 16, 0);
        x.voice(7, 3, 1);
        return x;
    }

    private static void plainly(FelledByNames x, List<Integer> seen) {
        for (int i = 0; i <= 10; i++) {
            seen.add(x.count(i));
        }
        for (int i = 0; i < 36; i++) {
            if (i / 6 != i % 6) {
                seen.add(x.holds(i / 6, i % 6));
            }
        }
        for (int i = 0; i < 6; i++) {
            seen.add(x.talkOf(i));
        }
        int trees = x.count(0);
        for (int i = 0; i < trees * 8; i++) {
            seen.add(x.ofTree(i / 8, i % 8));
        }
        for (int i = 0; i <= 9; i++) {
            seen.add(x.trace(i));
        }
        for (int i = 0; i < 16; i++) {
            seen.add(x.law(i % 2, i * 7, i / 3, i / 2));
        }
    }

    /** THE TAPE and the numbers that wait can be seen by using them up. */
    private static void atTape(FelledByNames x, List<Integer> seen) {
        seen.add(x.count(8));
        seen.add(x.check());
        seen.add(x.count(7));
        seen.add(x.text(0));
        for (int i = 0; i < 9; i++) {
            seen.add(x.law(0, i * 9 % 25, i, i / 2));
        }
    }

    /** Each number of a SHEET is seen as TALK about 0, behind being moved to the first. */
    private static void atSheets(FelledByNames x, List<Integer> seen) {
        for (int sheet = 0; sheet < 4; sheet++) {
            for (int other = 0; other < 4; other++) {
                seen.add(x.move(sheet, 0, other, 0, 0));
            }
            int i = 0;
            x.talk(0, 9);
            while (i < 40 && x.move(sheet, i, sheet, 0, 1) == 1) {
                seen.add(x.talks(sheet));
                seen.add(x.talkOf(0));
                i++;
            }
            seen.add(i);
        }
    }

    private static void ahead(FelledByNames x, List<Integer> seen) {
        seen.add(x.down(60));
        seen.add(x.timber(60));
        seen.add(x.safe(60));
        seen.add(x.then(60, 0, 1));
        seen.add(x.keeper(30, 0));
        seen.add(x.loose(3));
        seen.add(x.days(5));
        plainly(x, seen);
    }

    private static void atImage(FelledByNames x, List<Integer> seen) {
        seen.add(x.restore());
        plainly(x, seen);
        seen.add(x.image());
    }

    private static void atImagesTape(FelledByNames x, List<Integer> seen) {
        seen.add(x.restore());
        atTape(x, seen);
    }

    private static List<Integer> asItIs(int world, int look) {
        List<Integer> seen = AS_IT_IS.get(world * LOOKS.length + look);
        if (seen == null) {
            seen = new ArrayList<>();
            LOOKS[look].at(WORLDS[world].make(), seen);
            AS_IT_IS.put(world * LOOKS.length + look, seen);
        }
        return seen;
    }

    /** Does an act, which answers ERROR LOW - k or (k 0) anything, and looks at all that can be seen. */
    private static void leaves(int world, String name, int k, Act act) {
        FelledByNames as = WORLDS[world].make();
        for (int look = 0; look < LOOKS.length; look++) {
            FelledByNames x = WORLDS[world].make();
            int got = act.on(x);
            if (k > 0) {
                due(name, got, LOW - k);
            }
            for (int i = 1; i <= 5 && look == 0; i++) {
                due(call("told", i) + " behind " + name, x.told(i), as.told(i) + (i == k ? 1 : 0));
            }
            List<Integer> seen = new ArrayList<>();
            LOOKS[look].at(x, seen);
            List<Integer> want = asItIs(world, look);
            due("how much is seen behind " + name, seen.size(), want.size());
            for (int i = 0; i < Math.min(seen.size(), want.size()); i++) {
                due("what is seen (look " + look + ", " + i + ") behind " + name, seen.get(i), want.get(i));
            }
        }
    }

    private static void refused(String name, int k, Act act) {
        promise = 42;
        leaves(BUSY, name, k, act);
    }

    private static void refusedOfHill() {
        refused("hold(2, 2, 5)", 1, x -> x.hold(2, 2, 5));
        refused("hold(-1, 2, 5)", 1, x -> x.hold(-1, 2, 5));
        refused("hold(6, 2, 5)", 1, x -> x.hold(6, 2, 5));
        refused("hold(2, -1, 5)", 1, x -> x.hold(2, -1, 5));
        refused("hold(2, 6, 5)", 1, x -> x.hold(2, 6, 5));
        refused("hold(2, 3, -1)", 1, x -> x.hold(2, 3, -1));
        refused("hold(2, 3, 100)", 1, x -> x.hold(2, 3, 100));
        refused("holds(2, 2)", 1, x -> x.holds(2, 2));
        refused("holds(2, 6)", 1, x -> x.holds(2, 6));
        refused("talk(-1, 5)", 1, x -> x.talk(-1, 5));
        refused("talk(6, 5)", 1, x -> x.talk(6, 5));
        refused("talk(2, -1)", 1, x -> x.talk(2, -1));
        refused("talk(2, 10)", 1, x -> x.talk(2, 10));
        refused("talkOf(6)", 1, x -> x.talkOf(6));
        refused("set(0, -1)", 1, x -> x.set(0, -1));
        refused("set(0, 16)", 1, x -> x.set(0, 16));
        refused("set(1, -1)", 1, x -> x.set(1, -1));
        refused("set(1, 1000)", 1, x -> x.set(1, 1000));
        refused("set(2, -1)", 1, x -> x.set(2, -1));
        refused("set(2, 100000)", 1, x -> x.set(2, 100000));
        refused("set(3, 1)", 1, x -> x.set(3, 1));
        refused("set(-1, 1)", 1, x -> x.set(-1, 1));
        refused("tree(70, 1, 1, 1)", 1, x -> x.tree(70, 1, 1, 1));
        refused("tree(-1, 1, 1, 1)", 1, x -> x.tree(-1, 1, 1, 1));
        refused("tree(1, 11, 1, 1)", 1, x -> x.tree(1, 11, 1, 1));
        refused("tree(1, 16, 1, 1)", 1, x -> x.tree(1, 16, 1, 1));
        refused("tree(1, 60, 1, 1)", 1, x -> x.tree(1, 60, 1, 1));
        refused("tree(1, -12, 1, 1)", 1, x -> x.tree(1, -12, 1, 1));
        refused("tree(1, 1, 16, 1)", 1, x -> x.tree(1, 1, 16, 1));
        refused("tree(1, 1, -1, 1)", 1, x -> x.tree(1, 1, -1, 1));
        refused("tree(1, 1, 1, 100)", 1, x -> x.tree(1, 1, 1, 100));
        refused("tree(1, 1, 1, -1)", 1, x -> x.tree(1, 1, 1, -1));
        refused("ofTree(5, 1)", 1, x -> x.ofTree(5, 1));
        refused("ofTree(4, 8)", 1, x -> x.ofTree(4, 8));
        refused("change(5, 1, 1)", 1, x -> x.change(5, 1, 1));
        refused("change(-1, 1, 1)", 1, x -> x.change(-1, 1, 1));
        refused("change(4, 0, 16)", 1, x -> x.change(4, 0, 16));
        refused("change(4, 1, 100)", 1, x -> x.change(4, 1, 100));
        refused("change(4, 2, 2)", 1, x -> x.change(4, 2, 2));
        refused("change(4, 2, -1)", 1, x -> x.change(4, 2, -1));
        refused("change(4, 3, 1)", 1, x -> x.change(4, 3, 1));
        refused("become(5, 1)", 1, x -> x.become(5, 1));
        refused("become(4, 70)", 1, x -> x.become(4, 70));
        refused("become(4, -1)", 1, x -> x.become(4, -1));
        refused("as(5, 0)", 1, x -> x.as(5, 0));
        refused("as(4, 7)", 1, x -> x.as(4, 7));
        refused("as(4, 1)", 5, x -> x.as(4, 1));
    }

    private static void refusedOfTexts() {
        refused("feed(104, 0)", 1, x -> x.feed(104, 0));
        refused("feed(104, 9)", 1, x -> x.feed(104, 9));
        refused("feed(104, -1)", 1, x -> x.feed(104, -1));
        refused("text(2)", 1, x -> x.text(2));
        refused("text(-1)", 1, x -> x.text(-1));
        refused("law(2, 1, 1, 1)", 1, x -> x.law(2, 1, 1, 1));
        refused("law(-1, 1, 1, 1)", 1, x -> x.law(-1, 1, 1, 1));
    }

    private static void refusedOfDays() {
        refused("days(0)", 1, x -> x.days(0));
        refused("days(61)", 1, x -> x.days(61));
        refused("days(-1)", 1, x -> x.days(-1));
        refused("loose(0)", 1, x -> x.loose(0));
        refused("loose(41)", 1, x -> x.loose(41));
        refused("loose(-1)", 1, x -> x.loose(-1));
    }

    private static void refusedOfThoughts() {
        refused("then(61, 0, 1)", 1, x -> x.then(61, 0, 1));
        refused("then(-1, 0, 1)", 1, x -> x.then(-1, 0, 1));
        refused("then(1, 1, 1)", 1, x -> x.then(1, 1, 1));
        refused("when(5)", 1, x -> x.when(5));
        refused("when(-1)", 1, x -> x.when(-1));
        refused("when(1)", 2, x -> x.when(1));
        refused("down(61)", 1, x -> x.down(61));
        refused("down(-1)", 1, x -> x.down(-1));
        refused("gossip(5, 1)", 1, x -> x.gossip(5, 1));
        refused("gossip(4, 31)", 1, x -> x.gossip(4, 31));
        refused("gossip(4, 0)", 2, x -> x.gossip(4, 0));
        refused("gossip(1, 1)", 2, x -> x.gossip(1, 1));
        refused("about(32, 1)", 1, x -> x.about(32, 1));
        refused("about(-1, 1)", 1, x -> x.about(-1, 1));
        refused("about(1, 31)", 1, x -> x.about(1, 31));
        refused("about(31, 1)", 2, x -> x.about(31, 1));
        refused("talked(4, 0)", 1, x -> x.talked(4, 0));
        refused("talked(0, 2)", 1, x -> x.talked(0, 2));
        refused("talked(3, 0)", 2, x -> x.talked(3, 0));
        refused("talked(0, 0)", 2, x -> x.talked(0, 0));
        refused("crash(5)", 1, x -> x.crash(5));
        refused("keeper(31, 0)", 1, x -> x.keeper(31, 0));
        refused("keeper(1, 2)", 1, x -> x.keeper(1, 2));
        refused("order(4)", 1, x -> x.order(4));
        refused("order(3)", 2, x -> x.order(3));
        refused("timber(61)", 1, x -> x.timber(61));
        refused("safe(61)", 1, x -> x.safe(61));
        refused("odds(5, 1, 0)", 1, x -> x.odds(5, 1, 0));
        refused("odds(4, 61, 0)", 1, x -> x.odds(4, 61, 0));
        refused("odds(4, 1, 2)", 1, x -> x.odds(4, 1, 2));
    }

    private static void refusedOfSheets() {
        refused("voice(5, 0, 1)", 1, x -> x.voice(5, 0, 1));
        refused("voice(-1, 0, 1)", 1, x -> x.voice(-1, 0, 1));
        refused("voice(4, 4, 1)", 1, x -> x.voice(4, 4, 1));
        refused("voice(4, -1, 1)", 1, x -> x.voice(4, -1, 1));
        refused("trace(9)", 2, x -> x.trace(9));
        refused("trace(-1)", 2, x -> x.trace(-1));
        refused("sheet(4, 8, 1)", 1, x -> x.sheet(4, 8, 1));
        refused("sheet(-1, 0, 1)", 1, x -> x.sheet(-1, 0, 1));
        refused("sheet(0, 9, 1)", 1, x -> x.sheet(0, 9, 1));
        refused("sheet(0, 64, -1)", 1, x -> x.sheet(0, 64, -1));
        refused("sheet(0, 16, 41)", 1, x -> x.sheet(0, 16, 41));
        refused("sheet(0, 16, -1)", 3, x -> x.sheet(0, 16, -1));
        refused("sheet(3, 16, -1)", 3, x -> x.sheet(3, 16, -1));
        refused("put(4, 0, 1)", 1, x -> x.put(4, 0, 1));
        refused("put(3, 0, 1)", 2, x -> x.put(3, 0, 1));
        refused("put(0, 3, 1)", 1, x -> x.put(0, 3, 1));
        refused("put(0, -1, 1)", 1, x -> x.put(0, -1, 1));
        refused("move(0, 0, 4, 0, 1)", 1, x -> x.move(0, 0, 4, 0, 1));
        refused("move(4, 0, 0, 0, 1)", 1, x -> x.move(4, 0, 0, 0, 1));
        refused("move(0, 0, 3, 0, 1)", 2, x -> x.move(0, 0, 3, 0, 1));
        refused("move(3, 0, 0, 0, 1)", 2, x -> x.move(3, 0, 0, 0, 1));
        refused("move(0, 0, 1, 0, 1)", 5, x -> x.move(0, 0, 1, 0, 1));
        refused("move(0, 0, 0, 1, 3)", 1, x -> x.move(0, 0, 0, 1, 3));
        refused("move(0, 1, 0, 0, 3)", 1, x -> x.move(0, 1, 0, 0, 3));
        refused("move(0, 0, 0, 1, -1)", 1, x -> x.move(0, 0, 0, 1, -1));
        refused("move(0, -1, 0, 1, 1)", 1, x -> x.move(0, -1, 0, 1, 1));
        refused("move(0, 1, 0, -1, 1)", 1, x -> x.move(0, 1, 0, -1, 1));
        refused("talks(4)", 1, x -> x.talks(4));
        refused("talks(3)", 2, x -> x.talks(3));
        refused("judge(4)", 1, x -> x.judge(4));
        refused("judge(3)", 2, x -> x.judge(3));
        refused("count(11)", 1, x -> x.count(11));
        refused("count(-1)", 1, x -> x.count(-1));
        refused("told(0)", 1, x -> x.told(0));
        refused("told(6)", 1, x -> x.told(6));
    }

    private static void crowded(String name, int k, Act act) {
        promise = 42;
        leaves(CROWDED, name, k, act);
    }

    private static void refusedOfWhatIsFull() {
        crowded("a ninth TREE", 4, x -> x.tree(11, 45, 3, 3));
        crowded("a 51st byte", 4, x -> x.feed(104, 1));
        crowded("51 to 58 bytes", 4, x -> x.feed(104, 8));
        crowded("a 21st number", 4, x -> x.tell(6));
        crowded("days(1)", 3, x -> x.days(1));
        crowded("days(60)", 3, x -> x.days(60));
        crowded("loose(1)", 3, x -> x.loose(1));
        crowded("loose(40)", 3, x -> x.loose(40));
        crowded("put(0, 40, 1)", 1, x -> x.put(0, 40, 1));
        crowded("put(1, 0, 1)", 1, x -> x.put(1, 0, 1));
        crowded("move(0, 0, 0, 1, 40)", 1, x -> x.move(0, 0, 0, 1, 40));
        crowded("sheet(0, 8, 41)", 1, x -> x.sheet(0, 8, 41));
        crowded("about(256, 30)", 1, x -> x.about(256, 30));
        crowded("ofTree(8, 0)", 1, x -> x.ofTree(8, 0));
    }

    private static void refusedOfWhatIsNew() {
        promise = 42;
        leaves(NEW, "restore()", 2, FelledByNames::restore);
        leaves(NEW, "trace(0)", 2, x -> x.trace(0));
        leaves(NEW, "talks(0)", 2, x -> x.talks(0));
        leaves(NEW, "change(0, 0, 0)", 1, x -> x.change(0, 0, 0));
        leaves(NEW, "become(0, 0)", 1, x -> x.become(0, 0));
        leaves(NEW, "voice(0, 0, 0)", 1, x -> x.voice(0, 0, 0));
        leaves(NEW, "about(1, 1)", 1, x -> x.about(1, 1));
    }

    private static void leavesAll(int ofPromise, String name, Act act) {
        promise = ofPromise;
        leaves(BUSY, name, 0, act);
        leaves(CROWDED, name, 0, act);
    }

    private static void asked() {
        leavesAll(3, "holds(1, 0)", x -> x.holds(1, 0));
        leavesAll(5, "talkOf(5)", x -> x.talkOf(5));
        for (int what = 0; what < 8; what++) {
            int asked = what;
            leavesAll(8, call("ofTree", 4, what), x -> x.ofTree(4, asked));
        }
        leavesAll(11, "as(0, 0)", x -> x.as(0, 0));
        leavesAll(14, "law(0, 1, 2, 3)", x -> x.law(0, 1, 2, 3));
        leavesAll(14, "law(1, 1, 2, 3)", x -> x.law(1, 1, 2, 3));
        for (int n : new int[] {0, 1, 30, 60}) {
            leavesAll(17, call("then", n, 0, 1), x -> x.then(n, 0, 1));
            leavesAll(19, call("down", n), x -> x.down(n));
            leavesAll(26, call("timber", n), x -> x.timber(n));
            leavesAll(27, call("safe", n), x -> x.safe(n));
            leavesAll(28, call("odds", 0, n, 0), x -> x.odds(0, n, 0));
            leavesAll(28, call("odds", 3, n, 1), x -> x.odds(3, n, 1));
        }
        leavesAll(18, "when(3)", x -> x.when(3));
        leavesAll(18, "when(4)", x -> x.when(4));
        leavesAll(20, "gossip(0, 30)", x -> x.gossip(0, 30));
        leavesAll(21, "about(0, 30)", x -> x.about(0, 30));
        leavesAll(21, "about(1, 30)", x -> x.about(1, 30));
        for (int tree = 0; tree < 5; tree++) {
            int fell = tree;
            leavesAll(23, call("crash", tree), x -> x.crash(fell));
        }
        for (int n : new int[] {0, 30}) {
            leavesAll(24, call("keeper", n, 0), x -> x.keeper(n, 0));
            leavesAll(24, call("keeper", n, 1), x -> x.keeper(n, 1));
        }
        leavesAll(25, "order(0)", x -> x.order(0));
        leavesAll(31, "trace(0)", x -> x.trace(0));
        leavesAll(36, "judge(0)", x -> x.judge(0));
        for (int what = 0; what <= 10; what++) {
            int asked = what;
            leavesAll(41, call("count", what), x -> x.count(asked));
        }
        for (int k = 1; k <= 5; k++) {
            int asked = k;
            leavesAll(42, call("told", k), x -> x.told(asked));
        }
        promise = 22;
        leaves(NEW, "talked(0, 0)", 0, x -> x.sheet(0, 8, 1) + x.talked(0, 0) + x.talked(0, 1) + x.sheet(0, 0, 0));
        promise = 34;
        leaves(BUSY, "move of none", 0, x -> x.move(0, 3, 0, 0, 0));
        leaves(BUSY, "move onto itself", 0, x -> x.move(0, 0, 0, 0, 3));
        promise = 40;
        leaves(NEW, "check() of none", 0, FelledByNames::check);
    }

    private static void takenBack() {
        leavesAll(2, "hold", x -> x.hold(0, 1, x.hold(0, 1, 50)));
        leavesAll(4, "talk", x -> x.talk(4, x.talk(4, 9)));
        for (int what = 0; what < 3; what++) {
            int set = what;
            leavesAll(6, call("set", what), x -> x.set(set, x.set(set, 1)));
            leavesAll(9, call("change", 1, what), x -> x.change(1, set, x.change(1, set, 0)));
        }
        for (int km = 0; km < 70; km += 11) {
            int into = km;
            leavesAll(10, call("become", 2, km), x -> {
                int m = x.ofTree(2, 1);
                return x.become(2, x.become(2, into) * 10 + m);
            });
        }
        leavesAll(29, "seed", x -> x.seed(x.seed(-1)));
        promise = 33;
        leaves(BUSY, "put", 0, x -> x.put(1, 3, 1) + x.put(1, 3, 6));
        promise = 32;
        leaves(BUSY, "sheet", 0, x -> x.sheet(3, 32, 40) + x.sheet(3, 0, 0));
        promise = 38;
        leaves(NEW, "tell, check", 0, x -> x.tell(5) + x.check());
        promise = 13;
        leaves(NEW, "a FAULT", 0, x -> read(x, 0, "h+"));
        leaves(NEW, "a FAULT", 0, x -> read(x, 1, "x+h"));
    }
}
