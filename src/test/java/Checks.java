/** What the tests of promises and sentences have in common: checks that are counted, and calls in short. */
abstract class Checks {
    static final long NOTHING = -1000000000000000L;
    static final int TOP = 2147483646;
    static final int P = 2147483647;
    private static int wrong = 0;
    private static int asked = 0;

    static void due(String what, long got, long want) {
        asked++;
        if (got != want) {
            fail(what + " answered " + got + ", due is " + want);
        }
    }

    static void so(String what, boolean is) {
        due(what, is ? 1 : 0, 1);
    }

    static void fail(String why) {
        wrong++;
        System.out.println(why);
    }

    static int asked() {
        return asked;
    }

    /** At the end of a test: exit code 1 if an answer was not as due. */
    static void finish() {
        System.out.println(asked + " answers, " + wrong + " are not as due");
        if (wrong != 0) {
            System.exit(1);
        }
    }

    static void feed(ClashFree x, int[] bytes) {
        int before = x.count(2);
        for (int from = 0; from < bytes.length; from += 20) {
            int[] five = new int[5];
            for (int i = 0; i < 20; i++) {
                five[i / 4] = five[i / 4] << 8 | (from + i < bytes.length ? bytes[from + i] : 0);
            }
            x.feed(five[0], five[1], five[2], five[3], five[4]);
        }
        x.end(before + bytes.length);
    }

    static int[] bytesOf(String text) {
        int[] bytes = new int[text.length()];
        for (int i = 0; i < bytes.length; i++) {
            bytes[i] = text.charAt(i);
        }
        return bytes;
    }

    static int run(ClashFree x, int t, String text) {
        feed(x, bytesOf(text));
        return x.run(t);
    }

    static ClashFree made(int bound, int spread, int growth, long s) {
        ClashFree x = new ClashFree();
        x.make(0, bound, spread, growth, s);
        return x;
    }

    /** The bytes of AN IMAGE, with the check that is due. */
    static int[] imageOf(int bound, int spread, int growth, long s, int... keysAndValues) {
        int[] bytes = new int[14 + 4 * keysAndValues.length];
        bytes[0] = bound;
        bytes[1] = spread / 256;
        bytes[2] = spread % 256;
        bytes[3] = growth;
        for (int i = 0; i < 8; i++) {
            bytes[4 + i] = (int) (s >>> 56 - 8 * i) & 255;
        }
        bytes[12] = keysAndValues.length / 2;
        for (int i = 0; i < 4 * keysAndValues.length; i++) {
            bytes[13 + i] = keysAndValues[i / 4] >>> 24 - 8 * (i % 4) & 255;
        }
        return checked(bytes);
    }

    static int[] checked(int[] bytes) {
        int c = 7;
        for (int i = 0; i < bytes.length - 1; i++) {
            c = (5 * c + bytes[i]) % 253;
        }
        bytes[bytes.length - 1] = c;
        return bytes;
    }

    static int back(ClashFree x, int t, int[] image) {
        x.end(0);
        feed(x, image);
        return x.back(t);
    }

    /** TABLE 0 with the KEYS i * i * 7919 + i, i from 0 to 59, each with VALUE i, made by s 78. */
    static ClashFree sixty() {
        int[] all = new int[120];
        for (int i = 0; i < 60; i++) {
            all[2 * i] = i * i * 7919 + i;
            all[2 * i + 1] = i;
        }
        ClashFree x = new ClashFree();
        due("back of sixty", back(x, 0, imageOf(8, 25, 0, 78, all)), 60);
        return x;
    }

    static ClashFree full() {
        ClashFree x = made(8, 100, 0, 3);
        run(x, 0, "for 100 [put i as i;];");
        run(x, 0, "for 60 [put i+100 as i;];");
        due("as many as there may be", x.has(0, 0), 160);
        return x;
    }

    static void bad(String text, int kind, int place, int depth) {
        ClashFree x = made(8, 25, 0, 1);
        run(x, 0, "put 1 as 1;let 9;");
        due("run of " + text, run(x, 0, text), -1);
        due("the tape goes", x.count(2), 0);
        due("fault of " + text, x.ran(0), kind);
        due("place of " + text, x.ran(1), place);
        due("depth of " + text, x.ran(2), depth);
        due("refused of " + text, x.ran(3), 0);
        due("x of " + text, x.ran(4), 0);
        due("ended of " + text, x.ran(5), 0);
        due("nothing is done", x.has(0, 2), 1);
    }

    static void good(String text) {
        ClashFree x = made(8, 25, 0, 1);
        due("run of " + text, run(x, 0, text) >= 0 ? 1 : 0, 1);
        due("fault of " + text, x.ran(0), 0);
        due("place of " + text, x.ran(1), -1);
        due("depth of " + text, x.ran(2), -1);
    }
}
