/** Promises 12 to 14: each edge of THE TAPE, the grammar of TEXTS and what they give, from both sides. */
public final class EdgesOfTextsTest extends Due {
    private static final String DIGITS = "0123456789";
    private static final String SIGNS = "|&<=>+-*/%";
    private static final String NO_COMPARING = "|&+-*/%";

    public static void main(String[] args) {
        feedsOneByOne();
        feedsUpToTheEnd();
        feedsTheLowestBytes();
        useOfText();
        whatStays();
        afterEach(0, "htd");
        afterEach(1, "xmp");
        openAtOnce();
        longTexts();
        digits();
        useOfLaw();
        without();
        heldCools();
        heldWood();
        wrapping();
        quotients();
        truths();
        end();
    }

    private static void feedsOneByOne() {
        promise = 12;
        FelledByNames x = new FelledByNames();
        for (int i = 1; i <= 50; i++) {
            due("feed, one more", x.feed('1', 1), i);
            due("count(7)", x.count(7), i);
        }
        due("feed, a 51st", x.feed('1', 1), FULL);
        due("feed, 8 more", x.feed('1', 8), FULL);
        for (int n : new int[] {MIN, -1, 0, 9, MAX}) {
            due("BEYOND ahead of FULL, " + n, x.feed('1', n), BEYOND);
        }
        due("count(7)", x.count(7), 50);
        due("told(4)", x.told(4), 2);
        due("told(1)", x.told(1), 5);
        due("text, the fifth digit is the first wrong byte", x.text(0), -14);
        due("feed, there is room again", x.feed('1', 1), 1);
    }

    private static void feedsUpToTheEnd() {
        promise = 12;
        for (int n = -1; n <= 10; n++) {
            FelledByNames x = new FelledByNames();
            due("feed of " + n, x.feed(0, n), in(n, 1, 8) ? n : BEYOND);
            due("count(7)", x.count(7), in(n, 1, 8) ? n : 0);
        }
        for (int n = 1; n <= 8; n++) {
            for (int ahead = 50 - n; ahead <= 51 - n; ahead++) {
                FelledByNames x = new FelledByNames();
                for (int i = 0; i < ahead; i++) {
                    x.feed('h', 1);
                }
                due("feed of " + n + " to " + ahead, x.feed(0, n), ahead + n <= 50 ? 50 : FULL);
                due("count(7)", x.count(7), ahead + n <= 50 ? 50 : ahead);
            }
        }
        FelledByNames x = new FelledByNames();
        due("feed(0, MIN)", x.feed(0, MIN), BEYOND);
        due("feed(0, MAX)", x.feed(0, MAX), BEYOND);
    }

    private static void feedsTheLowestBytes() {
        promise = 12;
        String text = "h+9*t-d%";
        for (int n = 1; n <= 8; n++) {
            FelledByNames x = new FelledByNames();
            long word = -1L;
            for (int i = 0; i < n; i++) {
                word = word & ~(255L << 8 * i) | (long) text.charAt(i) << 8 * i;
            }
            due("feed of " + n, x.feed(word, n), n);
            boolean whole = n % 2 == 1;
            due("text of " + text.substring(0, n), x.text(0), whole ? 1 : -10 - n);
        }
        FelledByNames x = new FelledByNames();
        x.feed(0x2b2b2b2b2b2b2b68L, 1);
        x.feed(0x002bL, 1);
        x.feed(0xffffff74L, 1);
        due("text of h+t", x.text(0), 1);
        due("law of h+t", x.law(0, 3, 4, 100), 7);
        x.feed(Long.MIN_VALUE, 8);
        due("the highest byte is 128, the first is 0", x.text(0), -10);
        x.feed(0xb12b312b312b312bL, 8);
        due("a TEXT doesn't begin with +", x.text(0), -10);
        x.feed(0xb12b312b312b3131L, 8);
        due("the highest byte is '1' and 128", x.text(0), -17);
        x.feed(0x312b312b312b3131L, 8);
        due("the highest byte is '1'", x.text(0), 1);
    }

    private static void useOfText() {
        promise = 13;
        for (int use : new int[] {MIN, -1, 0, 1, 2, MAX}) {
            FelledByNames x = new FelledByNames();
            feedAll(x, "7");
            due(call("text", use), x.text(use), in(use, 0, 1) ? 1 : BEYOND);
            due("count(7)", x.count(7), in(use, 0, 1) ? 0 : 1);
            due("law of COOLS", x.law(0, 0, 3, 0), use == 0 ? 7 : -3);
            due("law of WOOD", x.law(1, 5, 0, 0), use == 1 ? 7 : 5);
            due("told(1)", x.told(1), in(use, 0, 1) ? 0 : 1);
            if (!in(use, 0, 1)) {
                due("THE TAPE stays", x.text(0), 1);
                due("THE TAPE stays", x.law(0, 0, 3, 0), 7);
            }
        }
    }

    private static void whatStays() {
        promise = 13;
        FelledByNames x = new FelledByNames();
        due("of nothing", x.text(0), -10);
        due("of nothing", x.text(1), -10);
        due("none ahead stays none", x.law(0, 0, 3, 0), -3);
        due("none ahead stays none", x.law(1, 5, 0, 0), 5);
        due("a FAULT", read(x, 0, "h*"), -12);
        due("THE TAPE is empty behind a FAULT", x.count(7), 0);
        due("none ahead stays none", x.law(0, 8, 3, 0), -3);
        due("a TEXT", read(x, 0, "h*2"), 1);
        due("THE TAPE is empty behind a TEXT", x.count(7), 0);
        due("THE TAPE is empty behind a TEXT", x.text(0), -10);
        due("the one ahead stays", x.law(0, 4, 3, 0), 8);
        due("a FAULT at the end", read(x, 0, "h*3)"), -13);
        due("the one ahead stays", x.law(0, 4, 3, 0), 8);
        due("the other USE stays", x.law(1, 5, 3, 0), 5);
        due("in place of one ahead", read(x, 0, "t"), 1);
        due("in place of one ahead", x.law(0, 4, 3, 0), 3);
        x.days(1);
        due("a TEXT is gone by in DAYS", x.holds(0, 1), 20);
        for (int k = 1; k <= 5; k++) {
            due("a FAULT is no ERROR", x.told(k), 0);
        }
    }

    /** For each of all bytes behind a beginning: one with which a TEXT is whole, one with which it goes on, or a FAULT. */
    private static void follows(int use, String ahead, String whole, String on) {
        FelledByNames x = new FelledByNames();
        for (int b = 0; b < 256; b++) {
            // An object has 512 calls.
            if (b % 32 == 0) {
                x = new FelledByNames();
            }
            feedAll(x, ahead);
            x.feed(b, 1);
            int early = on.indexOf(b) >= 0 ? 1 : 0;
            int want = whole.indexOf(b) >= 0 ? 1 : -10 - ahead.length() - early;
            due("text(" + use + ") of " + ahead + " and byte " + b, x.text(use), want);
        }
    }

    private static void afterEach(int use, String names) {
        promise = 13;
        String a = names.substring(0, 1);
        String parts = DIGITS + names;
        String opens = "!(";
        follows(use, "", parts, opens);
        for (int i = 0; i < 3; i++) {
            follows(use, names.substring(i, i + 1), "", SIGNS);
        }
        follows(use, "0", DIGITS, SIGNS);
        follows(use, "12", DIGITS, SIGNS);
        follows(use, "999", DIGITS, SIGNS);
        follows(use, "9999", "", SIGNS);
        follows(use, "0000", "", SIGNS);
        for (int i = 0; i < SIGNS.length(); i++) {
            follows(use, a + SIGNS.charAt(i), parts, opens);
        }
        for (String sign : new String[] {"<", "=", ">"}) {
            follows(use, a + sign + a, "", NO_COMPARING);
            follows(use, a + sign + "1", DIGITS, NO_COMPARING);
            follows(use, a + sign + a + "*2+" + a, "", NO_COMPARING);
            follows(use, a + "+2" + sign + "!" + a, "", NO_COMPARING);
            follows(use, a + sign + a + "&" + a, "", SIGNS);
            follows(use, a + sign + a + "|" + a, "", SIGNS);
            follows(use, "(" + a + sign + a, ")", NO_COMPARING);
            follows(use, "(" + a + sign + a + ")", "", SIGNS);
            follows(use, a + sign + "(" + a, ")", SIGNS);
            follows(use, a + sign + "(" + a + sign + a, ")", NO_COMPARING);
            follows(use, a + sign + "(" + a + sign + a + ")", "", NO_COMPARING);
        }
        follows(use, "!", parts, opens);
        follows(use, "!" + a, "", SIGNS);
        follows(use, "!9", DIGITS, SIGNS);
        follows(use, "(", "", parts + opens);
        follows(use, "(" + a, ")", SIGNS);
        follows(use, "(1", ")", DIGITS + SIGNS);
        follows(use, "(" + a + ")", "", SIGNS);
        follows(use, "!(" + a, ")", SIGNS);
        follows(use, "!(" + a + ")", "", SIGNS);
        follows(use, "((" + a + ")", ")", SIGNS);
        follows(use, "(" + a + "+", "", parts + opens);
    }

    private static void follows(String ahead, String whole, String on) {
        follows(0, ahead, whole, on);
    }

    private static void openAtOnce() {
        promise = 13;
        String parts = DIGITS + "htd";
        follows("!!!!", parts, "!(");
        follows("!!!!!", parts, "");
        follows("((((", "", parts + "!(");
        follows("(((((", "", parts);
        follows("!(!(", "", parts + "!(");
        follows("!(!(!", "", parts);
        follows("(!(!(", "", parts);
        follows("!!!!!h", "", SIGNS);
        follows("!!!!!h+", parts, "!(");
        follows("!!!!!h+!!!!", parts, "!(");
        follows("!!!!!h+!!!!!", parts, "");
        follows("(((((h", "", SIGNS + ")");
        follows("(((((h)", "", SIGNS + ")");
        follows("(((((h+", "", parts);
        follows("(((((h)*", "", parts + "!(");
        follows("(((((h)*!", "", parts);
        follows("(((((h))))", ")", SIGNS);
        follows("(((((h)))))", "", SIGNS);
        follows("(((((h)))))-((((", "", parts + "!(");
        follows("(((((h)))))-(((((", "", parts);
        follows("!(!(!h", "", SIGNS + ")");
        follows("!(!(!h|", "", parts + "!(");
        follows("!(!(!h|!", "", parts);
        follows("!(!(!h)", ")", SIGNS);
        follows("!(!(!h))", "", SIGNS);
        follows("!!!!(h", ")", SIGNS);
        follows("!!!!(h+", "", parts);
        follows("!!!!(h)+", parts, "!(");
    }

    private static String times(String text, int n) {
        StringBuilder all = new StringBuilder();
        for (int i = 0; i < n; i++) {
            all.append(text);
        }
        return all.toString();
    }

    private static void longTexts() {
        promise = 13;
        FelledByNames x = new FelledByNames();
        due("49 bytes", read(x, 1, times("1+", 24) + "1"), 1);
        due("49 bytes", x.law(1, 0, 0, 0), 25);
        due("50 bytes", read(x, 1, times("1+", 24) + "12"), 1);
        due("50 bytes", x.law(1, 0, 0, 0), 36);
        due("50 bytes, too early", read(x, 1, times("1+", 25)), -60);
        due("50 bytes, the last is wrong", read(x, 1, times("1+", 24) + "1)"), -59);
        due("50 bytes, the first is wrong", read(x, 1, "+" + times("1+", 24) + "1"), -10);
        due("50 bytes, the one ahead stays", x.law(1, 0, 0, 0), 36);
        due("50 bytes, all in ( )", read(x, 1, times("(x)*", 12) + "!x"), 1);
        due("50 bytes, ! and names", read(x, 1, times("!!x|", 12) + "!x"), 1);
        due("what it gives", x.law(1, 0, 0, 0), 1);
        due("40 digits", read(x, 1, times("1000+", 9) + "1000"), 1);
        due("what it gives, held", x.law(1, 0, 0, 0), 99);
        due("a chain to the right", read(x, 1, "(1+(1+(1+(1+(1+1)))))*7"), 1);
        due("what it gives", x.law(1, 0, 0, 0), 42);
    }

    private static void digits() {
        promise = 13;
        FelledByNames x = new FelledByNames();
        due("4 digits", read(x, 0, "9999=h"), 1);
        due("the greatest NUMBER", x.law(0, 9999, 0, 0), 1);
        due("one less", x.law(0, 9998, 0, 0), 0);
        due("4 digits, 0 ahead", read(x, 0, "0009"), 1);
        due("what it gives", x.law(0, 0, 0, 0), 9);
        due("0", read(x, 0, "0"), 1);
        due("what it gives", x.law(0, 0, 0, 0), 0);
        due("5 digits", read(x, 0, "10000"), -14);
        due("5 digits, 0 ahead", read(x, 0, "00000"), -14);
        due("5 digits further on", read(x, 0, "h+10000"), -16);
        due("what stays", x.law(0, 0, 0, 0), 0);
    }

    private static void useOfLaw() {
        promise = 14;
        FelledByNames x = new FelledByNames();
        for (int use : new int[] {MIN, -1, 0, 1, 2, MAX}) {
            due(call("law", use, 1, 2, 3), x.law(use, 1, 2, 3), use == 0 ? -2 : use == 1 ? 1 : BEYOND);
        }
        due("told(1)", x.told(1), 4);
        String[] names = {"h", "t", "d", "x", "m", "p"};
        for (int i = 0; i < 6; i++) {
            due("text of " + names[i], read(x, i / 3, names[i]), 1);
            due("NAMES in order", x.law(i / 3, 4, 5, 6), 4 + i % 3);
        }
        due("the first byte of the other USE", read(x, 0, "x"), -10);
        due("the first byte of the other USE", read(x, 1, "h"), -10);
    }

    private static void without() {
        promise = 14;
        FelledByNames x = new FelledByNames();
        int[] t = {0, 1, -1, 9, 10, -9, -10, MAX, -MAX, MIN};
        int[] cools = {0, -1, 1, -9, -9, 9, 9, -9, 9, -9};
        for (int i = 0; i < t.length; i++) {
            due(call("law", 0, 50, t[i], 6), x.law(0, 50, t[i], 6), cools[i]);
        }
        int[] height = {0, 1, 98, 99, 100, -1, MAX, MIN};
        int[] wood = {0, 1, 98, 99, 99, 0, 99, 0};
        for (int i = 0; i < height.length; i++) {
            due(call("law", 1, height[i], 50, 6), x.law(1, height[i], 50, 6), wood[i]);
        }
    }

    private static void heldCools() {
        promise = 14;
        FelledByNames x = new FelledByNames();
        read(x, 0, "h");
        int[] gives = {-10, -9, -8, 0, 8, 9, 10, MIN, MAX};
        int[] held = {-9, -9, -8, 0, 8, 9, 9, -9, 9};
        for (int i = 0; i < gives.length; i++) {
            due(call("law", 0, gives[i], 0, 0), x.law(0, gives[i], 0, 0), held[i]);
        }
    }

    private static void heldWood() {
        promise = 14;
        FelledByNames x = new FelledByNames();
        read(x, 1, "x-m");
        int[] gives = {-1, 0, 1, 98, 99, 100, MIN, MAX};
        int[] held = {0, 0, 1, 98, 99, 99, 0, 99};
        for (int i = 0; i < gives.length; i++) {
            due(call("law", 1, gives[i], 0, 0), x.law(1, gives[i], 0, 0), held[i]);
        }
        due("-9 is held within 0 to 99", x.law(1, 0, 9, 0), 0);
    }

    private static int given(FelledByNames x, String text, int a, int b, int c) {
        due("text of " + text, read(x, 0, text), 1);
        return x.law(0, a, b, c);
    }

    private static void wrapping() {
        promise = 14;
        FelledByNames x = new FelledByNames();
        due("+ goes round above", given(x, "h+t=d", MAX, 1, MIN), 1);
        due("+ goes round below", given(x, "h+t=d", MIN, -1, MAX), 1);
        due("- goes round below", given(x, "h-t=d", MIN, 1, MAX), 1);
        due("- goes round above", given(x, "h-t=d", MAX, -1, MIN), 1);
        due("* goes round", given(x, "h*t=d", MAX, 2, -2), 1);
        due("* goes round to 0", given(x, "h*t", 65536, 65536, 0), 0);
        due("* goes round of the least", given(x, "h*t=d", MIN, -1, MIN), 1);
        due("0 - the least", given(x, "0-h=d", MIN, 0, MIN), 1);
        due("NUMBERS go round", given(x, "9999*9999*9999>0", 0, 0, 0), 9999 * 9999 * 9999 > 0 ? 1 : 0);
        due("NUMBERS go round", given(x, "9999*9999*22<0", 0, 0, 0), 9999 * 9999 * 22 < 0 ? 1 : 0);
        due("< doesn't go round", given(x, "h<t", MIN, MAX, 0), 1);
        due("> doesn't go round", given(x, "h>t", MIN, MAX, 0), 0);
        due("= of the farthest", given(x, "h=t", MIN, MAX, 0), 0);
        due("held behind going round", given(x, "h+1", MAX, 0, 0), -9);
    }

    private static void quotients() {
        promise = 14;
        FelledByNames x = new FelledByNames();
        int[][] by = {{7, 2}, {-7, 2}, {7, -2}, {-7, -2}, {1, 2}, {-1, 2}, {0, 5}, {6, 3}, {7, 0}, {0, 0}, {-7, 0}, {MIN, 0},
            {MAX, 0}};
        int[] cut = {3, -3, -3, 3, 0, 0, 0, 2, 0, 0, 0, 0, 0};
        int[] rest = {1, -1, 1, -1, 1, -1, 0, 0, 0, 0, 0, 0, 0};
        due("text of h/t", read(x, 0, "h/t"), 1);
        for (int i = 0; i < by.length; i++) {
            due(by[i][0] + " by " + by[i][1], x.law(0, by[i][0], by[i][1], 0), cut[i]);
        }
        due("text of h%t", read(x, 0, "h%t"), 1);
        for (int i = 0; i < by.length; i++) {
            due("rest of " + by[i][0] + " by " + by[i][1], x.law(0, by[i][0], by[i][1], 0), rest[i]);
        }
        due("the least by -1", given(x, "h/t=d", MIN, -1, MIN), 1);
        due("rest of the least by -1", given(x, "h%t+3", MIN, -1, 0), 3);
        due("the least by 1", given(x, "h/t=d", MIN, 1, MIN), 1);
        due("/ by what is 0", given(x, "5/(h-h)+2", 7, 0, 0), 2);
        due("% by what is 0", given(x, "5%(h-h)+2", 7, 0, 0), 2);
        due("all is worked out, by 0 as well", given(x, "1|5/0", 0, 0, 0), 1);
        due("all is worked out, by 0 as well", given(x, "0&5%0", 0, 0, 0), 0);
    }

    private static void truths() {
        promise = 14;
        FelledByNames x = new FelledByNames();
        int[] values = {0, 1, 2, -1, MIN, MAX};
        String[] signs = {"|", "&", "<", "=", ">"};
        for (int s = 0; s < signs.length; s++) {
            due("text", read(x, 0, "(h" + signs[s] + "t)*5"), 1);
            for (int a : values) {
                for (int b : values) {
                    boolean[] is = {a != 0 || b != 0, a != 0 && b != 0, a < b, a == b, a > b};
                    due(a + signs[s] + b, x.law(0, a, b, 0), is[s] ? 5 : 0);
                }
            }
        }
        due("text", read(x, 0, "!h*5"), 1);
        for (int a : values) {
            due("!" + a, x.law(0, a, 0, 0), a == 0 ? 5 : 0);
        }
        due("text", read(x, 0, "!!h*5"), 1);
        for (int a : values) {
            due("!!" + a, x.law(0, a, 0, 0), a == 0 ? 0 : 5);
        }
    }
}
