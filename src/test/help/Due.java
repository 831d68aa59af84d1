/** What the tests share: the ERRORS, an answer held against the one that is due, and calls that many tests begin with. */
abstract class Due {
    static final int LOW = -1000000000;
    static final int BEYOND = LOW - 1;
    static final int NONE = LOW - 2;
    static final int STATE = LOW - 3;
    static final int FULL = LOW - 4;
    static final int KIND = LOW - 5;
    static final int MIN = Integer.MIN_VALUE;
    static final int MAX = Integer.MAX_VALUE;

    static int promise = 0;
    private static int asked = 0;
    private static int wrong = 0;

    static void due(String call, int got, int want) {
        asked++;
        if (got == want) {
            return;
        }
        wrong++;
        if (wrong <= 100) {
            System.out.println("promise " + promise + ": " + call + " answered " + got + ", due is " + want);
        }
    }

    static void end() {
        System.out.println(asked + " answers asked for, " + wrong + " not as due");
        if (wrong != 0) {
            System.exit(1);
        }
    }

    /** How a call is written, for what is printed. */
    static String call(String name, int... with) {
        StringBuilder text = new StringBuilder(name).append("(");
        for (int i = 0; i < with.length; i++) {
            text.append(i == 0 ? "" : ", ").append(with[i]);
        }
        return text.append(")").toString();
    }

    static boolean in(int v, int low, int high) {
        return v >= low && v <= high;
    }

    /** The last ones within and the first ones beyond on either side, and the farthest. */
    static int[] around(int low, int high) {
        return new int[] {MIN, low - 1, low, high, high + 1, MAX};
    }

    static int feedAll(FelledByNames x, String text) {
        int size = x.count(7);
        for (int i = 0; i < text.length(); i += 8) {
            long word = 0;
            int n = Math.min(8, text.length() - i);
            for (int k = 0; k < n; k++) {
                word |= (long) text.charAt(i + k) << 8 * k;
            }
            size = x.feed(word, n);
        }
        return size;
    }

    static int read(FelledByNames x, int use, String text) {
        feedAll(x, text);
        return x.text(use);
    }

    static void holdBoth(FelledByNames x, int one, int other, int v) {
        x.hold(one, other, v);
        x.hold(other, one, v);
    }

    static void talkAll(FelledByNames x, int v) {
        for (int i = 0; i < 6; i++) {
            x.talk(i, v);
        }
    }

    static void fill(FelledByNames x, int sheet, int bits, int... numbers) {
        x.sheet(sheet, bits, numbers.length);
        for (int i = 0; i < numbers.length; i++) {
            x.put(sheet, i, numbers[i]);
        }
    }

    /** A new object on which so many DAYS went by; that takes at most 167 of its 512 calls. */
    static FelledByNames aged(int day) {
        FelledByNames x = new FelledByNames();
        for (int left = day; left > 0; left -= 60) {
            x.days(Math.min(60, left));
        }
        return x;
    }
}
