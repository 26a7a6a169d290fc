import java.util.ArrayList;
import java.util.List;

/** Promises 1 to 38, sentence by sentence: what is too small, too large, empty, full, wrapped around, refused. */
public final class BoundariesTest extends Sentences {
    /** Numbers that no TABLE has. */
    private static final int[] NO_TABLES = {-1, 4, Integer.MIN_VALUE, Integer.MAX_VALUE};
    private static final int[] NO_KEYS = {-1, P, Integer.MIN_VALUE};

    public static void main(String[] args) {
        newObject();
        feed();
        end();
        make();
        put();
        get();
        drop();
        build();
        has();
        bucket();
        room();
        place();
        key();
        walk();
        below();
        nearest();
        many();
        crowd();
        empty();
        left();
        outer();
        best();
        inner();
        tries();
        would();
        frozen();
        frozenAt();
        shared();
        join();
        cut();
        values();
        run();
        ran();
        image();
        octet();
        back();
        copy();
        count();
        whole(promises());
        finish();
    }

    /** TABLES 0 and 1 with KEYS 10, 20, 30, 40 and 20, 30, 50. */
    private static ClashFree two() {
        ClashFree x = new ClashFree();
        back(x, 0, imageOf(8, 100, 0, 1, 10, 1, 20, 2, 30, 3, 40, 4));
        back(x, 1, imageOf(8, 100, 0, 2, 20, 2, 30, 9, 50, 5));
        return x;
    }

    /** TABLE 0 with one BUCKET and some KEYS. */
    private static ClashFree oneBucket(int... keys) {
        ClashFree x = made(64, 25, 0, 1);
        for (int key : keys) {
            x.put(0, key, key);
        }
        due("one BUCKET", x.has(0, 3), 1);
        return x;
    }

    /** All that can be told of a TABLE. */
    private static List<Long> stateOf(ClashFree x, int t) {
        List<Long> state = new ArrayList<>();
        for (int what = 0; what <= 16; what++) {
            state.add(x.has(t, what));
        }
        for (int j = 0; j < x.has(t, 3); j++) {
            for (int what = 0; what <= 3; what++) {
                state.add(x.bucket(t, j, what));
            }
        }
        for (int k = 0; k < x.has(t, 0); k++) {
            state.add((long) x.key(t, k));
            state.add((long) x.walk(t, k));
        }
        state.add(x.values(t, 0));
        state.add(x.values(t, 1));
        state.add(x.values(t, 2));
        return state;
    }

    /** Each KEY of TABLE 0 lies in its ROOM, and nowhere else is one; its VALUE is 1000 less it. */
    private static void allLie(ClashFree x) {
        int n = (int) x.has(0, 0);
        for (int k = 0; k < n; k++) {
            int key = x.key(0, k);
            due("KEY " + key + " lies in its ROOM", x.room(0, x.place(0, key, 0), x.place(0, key, 1)), key);
            due("VALUE of " + key, x.get(0, key), 1000 - key);
        }
        due("the others are empty", x.empty(0), x.has(0, 4) - n);
    }

    private static void newObject() {
        section("Promise 1");
        says("No TABLES.");
        ClashFree x = new ClashFree();
        due("TABLES", x.count(0), 0);
        due("KEYS", x.count(1), 0);
        for (int t = 0; t < 4; t++) {
            due("no TABLE", x.has(t, 0), NOTHING);
            due("no TABLE", x.left(t), -1);
        }
    }

    private static void feed() {
        section("Promise 2");
        says("Twenty bytes come behind those on the tape, of each number the highest first: how many there are;");
        ClashFree x = made(8, 25, 0, 1);
        due("a first twenty", x.feed(0x6c657420, 0x2d2d2d2d, 0, 0, 0), 20);
        x.end(4);
        due("behind those", x.feed(0x31323334, 0x353b6c65, 0x7420782b, 0x313b2020, 0x20202020), 24);
        due("the text", x.run(0), 2);
        due("x", x.ran(4), 12346);
        // Of numbers below 0 the bytes are 0 .. 255 all the same.
        int[] image = imageOf(8, 200, 200, -1);
        for (int i = 4; i < 12; i++) {
            due("a byte of s", image[i], 255);
        }
        due("back", back(x, 0, image), 0);
        due("GROWTH of a high byte", x.has(0, 16), 200);

        says("NONE, and none come, if there would be more than 1400.");
        ClashFree y = new ClashFree();
        for (int n = 1; n <= 70; n++) {
            due("feed", y.feed(n, n, n, n, n), 20 * n);
        }
        due("1400 are full", y.feed(1, 1, 1, 1, 1), -1);
        due("none came", y.count(2), 1400);
        y.end(1381);
        due("1401 would be too many", y.feed(1, 1, 1, 1, 1), -1);
        due("none came", y.count(2), 1381);
        y.end(1380);
        due("1400 are not", y.feed(1, 1, 1, 1, 1), 1400);
    }

    private static void end() {
        section("Promise 3");
        says("The tape has its first n bytes alone: true;");
        ClashFree x = made(8, 25, 0, 1);
        Checks.feed(x, bytesOf("let 12;let 99; get 1"));
        so("its first 7", x.end(7));
        due("so many", x.count(2), 7);
        due("run", x.run(0), 1);
        due("x", x.ran(4), 12);
        // Its first bytes alone: what stood behind them neither goes on with a number or a word nor counts as blanks.
        String[] texts = {"let 12345;", "let 12    ;", "letter 12;", "let 12+345;"};
        int[] ends = {6, 6, 3, 7};
        for (int n = 0; n < texts.length; n++) {
            Checks.feed(x, bytesOf(texts[n]));
            so("cut", x.end(ends[n]));
            due("it ends too soon", x.run(0), -1);
            due("there", x.ran(1), ends[n]);
        }
        so("none of none", x.end(0));
        x.feed(1, 2, 3, 4, 5);
        so("all", x.end(20));
        due("all stay", x.count(2), 20);
        so("none", x.end(0));
        due("none stay", x.count(2), 0);

        says("false if it has not so many, or n is below 0.");
        so("1 of none", !x.end(1));
        x.feed(1, 2, 3, 4, 5);
        so("21 of 20", !x.end(21));
        so("the greatest int", !x.end(Integer.MAX_VALUE));
        so("-1", !x.end(-1));
        so("the least int", !x.end(Integer.MIN_VALUE));
        due("all stay", x.count(2), 20);
    }

    private static void make() {
        section("Promise 4");
        says("TABLE t is made without KEYS (in place of what was there), ALL is BUILT: 1;");
        ClashFree x = new ClashFree();
        for (int t = 0; t < 4; t++) {
            due("make", x.make(t, 8, 100, 0, t), 1);
            due("without KEYS", x.has(t, 0), 0);
            due("LIMIT", x.has(t, 1), 4);
            due("BUCKETS", x.has(t, 3), 4);
            due("a PAIR was drawn", x.has(t, 9), 1);
            due("TABLES", x.count(0), t + 1);
        }
        x.put(2, 5, 5);
        x.get(2, 5);
        due("make in place", x.make(2, 64, 400, 200, 7), 1);
        ClashFree other = new ClashFree();
        other.make(2, 64, 400, 200, 7);
        so("as one that is new", stateOf(x, 2).equals(stateOf(other, 2)));
        due("no KEY is left", x.get(2, 5), NOTHING);
        due("TABLES", x.count(0), 4);

        says("-2: something can't be.");
        x.put(0, 5, 5);
        List<Long> before = stateOf(x, 0);
        int[][] cannot = {{0, 7, 100, 0}, {0, 65, 100, 0}, {0, -8, 100, 0}, {0, 8, 24, 0}, {0, 8, 401, 0}, {0, 8, 100, -1},
            {0, 8, 100, 201}, {0, Integer.MAX_VALUE, 100, 0}, {0, 8, Integer.MIN_VALUE, 0}, {0, 8, 100, Integer.MAX_VALUE}};
        for (int[] one : cannot) {
            due("make", x.make(one[0], one[1], one[2], one[3], 1), -2);
        }
        for (int t : NO_TABLES) {
            due("make of no such", x.make(t, 8, 100, 0, 1), -2);
        }
        so("all stays", stateOf(x, 0).equals(before));
        due("TABLES", x.count(0), 4);
    }

    private static void put() {
        section("Promise 5");
        says("PUT: 0 .. 4;");
        boolean[] seen = new boolean[5];
        ClashFree x = made(8, 100, 0, 5);
        for (int n = 0; n < 100; n++) {
            int told = x.put(0, n * n % 67, n);
            so("0 .. 4", told >= 0 && told <= 4);
            seen[told] = true;
        }
        for (int told = 0; told < 5; told++) {
            so("seen " + told, seen[told]);
        }

        says("-2: no TABLE, KEY;");
        List<Long> before = stateOf(x, 0);
        for (int t : new int[] {-1, 1, 2, 3, 4, Integer.MIN_VALUE, Integer.MAX_VALUE}) {
            due("no TABLE", x.put(t, 1, 1), -2);
            due("neither", x.put(t, -1, 1), -2);
        }
        for (int key : NO_KEYS) {
            due("no KEY", x.put(0, key, 1), -2);
        }
        so("all stays", stateOf(x, 0).equals(before));

        says("-3: there are 160.");
        ClashFree y = full();
        before = stateOf(y, 0);
        for (int key : new int[] {160, 500, TOP}) {
            due("one more", y.put(0, key, 1), -3);
        }
        due("no KEY is -2 then, too", y.put(0, -1, 1), -2);
        due("no KEY is -2 then, too", y.put(0, P, 1), -2);
        due("no TABLE is -2 then, too", y.put(1, 500, 1), -2);
        so("all stays", stateOf(y, 0).equals(before));
        due("one that is there: PUT", y.put(0, 0, 9), 0);
        due("its VALUE", y.get(0, 0), 9);
        y.drop(0, 0);
        so("as there are 159", y.put(0, 500, 1) > 0);
        due("160 again", y.put(0, 0, 1), -3);
    }

    private static void get() {
        section("Promise 6");
        says("Its VALUE;");
        ClashFree x = made(8, 100, 0, 5);
        int[] keys = {0, 1, TOP};
        int[] values = {Integer.MIN_VALUE, -1, Integer.MAX_VALUE};
        for (int n = 0; n < 3; n++) {
            x.put(0, keys[n], values[n]);
        }
        for (int n = 0; n < 3; n++) {
            due("VALUE", x.get(0, keys[n]), values[n]);
        }

        says("NOTHING if it is not there, there is no such TABLE.");
        due("not there", x.get(0, 2), NOTHING);
        x.drop(0, 1);
        due("not there any more", x.get(0, 1), NOTHING);
        for (int key : NO_KEYS) {
            due("no KEY", x.get(0, key), NOTHING);
        }
        due("no TABLE yet", x.get(1, 0), NOTHING);
        for (int t : NO_TABLES) {
            due("no such TABLE", x.get(t, 0), NOTHING);
        }
        due("without KEYS", made(8, 25, 0, 1).get(0, 0), NOTHING);
    }

    private static void drop() {
        section("Promise 7");
        says("DROP: 1, 2;");
        ClashFree x = made(8, 100, 0, 5);
        x.put(0, 0, 1);
        x.put(0, TOP, 1);
        due("the least KEY", x.drop(0, 0), 1);
        due("the greatest KEY", x.drop(0, TOP), 1);
        due("COUNT at LIMIT", x.has(0, 2), 4);
        due("a put BUILDS ALL", x.put(0, 3, 1), 4);
        for (int key = 4; key < 8; key++) {
            x.put(0, key, 1);
        }
        due("COUNT at LIMIT", x.has(0, 1) - x.has(0, 2), 0);
        due("BUILDS ALL", x.drop(0, 3), 2);
        ClashFree y = made(64, 100, 200, 5);
        for (int key : new int[] {50, 10, 90, 30, 70, 20, 80, 40, 60}) {
            y.put(0, key, 1000 - key);
        }
        for (int key : new int[] {10, 50, 90}) {
            so("the first, one between, the last", y.drop(0, key) > 0);
            allLie(y);
        }
        for (int key : new int[] {5, 55, 95}) {
            so("ahead of all, between, behind all", y.put(0, key, 1000 - key) > 0);
            allLie(y);
        }

        says("NONE: it is not there;");
        List<Long> before = stateOf(x, 0);
        due("not there", x.drop(0, 3), -1);
        due("not there", x.drop(0, TOP), -1);
        before.set(8, x.has(0, 8));
        so("all but READS stays", stateOf(x, 0).equals(before));
        due("without KEYS", made(8, 25, 0, 1).drop(0, 0), -1);

        says("-2: no TABLE, KEY.");
        for (int key : NO_KEYS) {
            due("no KEY", x.drop(0, key), -2);
        }
        due("no TABLE yet", x.drop(1, 4), -2);
        for (int t : NO_TABLES) {
            due("no TABLE", x.drop(t, 4), -2);
            due("neither", x.drop(t, -1), -2);
        }
        so("all but READS stays", stateOf(x, 0).equals(before));
    }

    private static void build() {
        section("Promise 8");
        says("ALL is BUILT (counted): PAIRS that were drawn for it;");
        ClashFree x = made(8, 100, 0, 5);
        due("without KEYS one", x.build(0), 1);
        due("counted", x.has(0, 11), 1);
        x.put(0, 7, 1);
        long pairs = x.has(0, 9);
        due("of one KEY two", x.build(0), 2);
        due("PAIRS of all", x.has(0, 9), pairs + 2);
        due("counted", x.has(0, 11), 2);
        ClashFree y = full();
        pairs = y.has(0, 9);
        int drawn = y.build(0);
        due("of 160", y.has(0, 9) - pairs, drawn);
        so("one for each BUCKET with KEYS, at least", drawn > y.has(0, 3) - y.many(0, 0));

        says("-2: no TABLE.");
        due("no TABLE yet", x.build(1), -2);
        for (int t : NO_TABLES) {
            due("no TABLE", x.build(t), -2);
        }
    }

    private static void has() {
        section("Promise 9");
        says("Of a TABLE: 0 KEYS, 1 LIMIT, 2 COUNT, 3 BUCKETS, 4 SUM, 5 BOUND times LIMIT, 6 a, 7 b (of the outer PAIR), 8 READS, "
            + "9 PAIRS drawn, 10 BUCKETS BUILT, 11 how often ALL was, 12 KEYS laid, 13 s, 14 BOUND, 15 SPREAD, 16 GROWTH.");
        ClashFree x = made(10, 130, 7, 5);
        long[] all = {0, 4, 0, 5, 0, 40, 1724882993, 301167773, 0, 1, 0, 0, 0, 2587011477941047999L, 10, 130, 7};
        for (int what = 0; what <= 16; what++) {
            due("without KEYS, " + what, x.has(0, what), all[what]);
        }
        ClashFree y = full();
        y.build(0);
        y.get(0, 0);
        long reads = y.has(0, 8);
        for (int what = 0; what <= 16; what++) {
            y.has(0, what);
            y.bucket(0, 0, what);
        }
        due("READS are not of has()", y.has(0, 8), reads);
        due("KEYS", y.has(0, 0), 160);
        due("LIMIT", y.has(0, 1), 164);
        due("BOUND times LIMIT", y.has(0, 5), 8 * 164);
        ClashFree most = made(64, 400, 200, -1);
        due("s below 0", most.has(0, 13), -5644886720501858487L);
        due("BOUND", most.has(0, 14), 64);
        due("SPREAD", most.has(0, 15), 400);
        due("GROWTH", most.has(0, 16), 200);

        says("NOTHING when there is none such, or for others.");
        due("none such", x.has(1, 0), NOTHING);
        for (int t : NO_TABLES) {
            due("none such", x.has(t, 0), NOTHING);
        }
        for (int what : new int[] {-1, 17, Integer.MIN_VALUE, Integer.MAX_VALUE}) {
            due("others", x.has(0, what), NOTHING);
        }
    }

    private static void bucket() {
        section("Promise 10");
        says("Of a BUCKET: 0 KEYS, 1 ROOF, 2 a, 3 b (NONE without ROOMS).");
        ClashFree x = made(8, 100, 0, 5);
        long[] none = {0, 0, -1, -1};
        for (int what = 0; what <= 3; what++) {
            due("without ROOMS", x.bucket(0, 1, what), none[what]);
        }
        x.put(0, 7, 1);
        long[] one = {1, 2, 1762018235, 664543405};
        for (int what = 0; what <= 3; what++) {
            due("with a KEY", x.bucket(0, 1, what), one[what]);
            due("the next, without", x.bucket(0, 2, what), none[what]);
        }
        x.drop(0, 7);
        due("ROOMS without KEYS: KEYS", x.bucket(0, 1, 0), 0);
        due("ROOMS without KEYS: ROOF", x.bucket(0, 1, 1), 2);
        due("ROOMS without KEYS: a", x.bucket(0, 1, 2), 1762018235);
        due("ROOMS without KEYS: b", x.bucket(0, 1, 3), 664543405);
        x.build(0);
        for (int what = 0; what <= 3; what++) {
            due("behind build()", x.bucket(0, 1, what), none[what]);
        }

        says("NOTHING when there is none such, or for others.");
        for (int j : new int[] {-1, 4, 2048, Integer.MIN_VALUE, Integer.MAX_VALUE}) {
            due("none such", x.bucket(0, j, 0), NOTHING);
            due("none such", x.bucket(0, j, 2), NOTHING);
        }
        for (int what : new int[] {-1, 4, Integer.MAX_VALUE}) {
            due("others", x.bucket(0, 0, what), NOTHING);
        }
        due("no TABLE", x.bucket(1, 0, 0), NOTHING);
        for (int t : NO_TABLES) {
            due("no TABLE", x.bucket(t, 0, 0), NOTHING);
        }
        // BUCKETS become fewer: those behind the last are none.
        ClashFree y = full();
        int buckets = (int) y.has(0, 3);
        y.make(0, 8, 25, 0, 1);
        for (int j = 1; j < Math.min(buckets, 40); j++) {
            due("none such any more", y.bucket(0, j, 0), NOTHING);
        }
        due("the one there is", y.bucket(0, 0, 0), 0);
    }

    private static void room() {
        section("Promise 11");
        says("The KEY in ROOM i of a BUCKET; NONE: it is empty;");
        ClashFree x = made(8, 100, 0, 5);
        x.put(0, 7, 1);
        due("ROOM 0", x.room(0, 1, 0), 7);
        for (int i = 1; i < 4; i++) {
            due("empty", x.room(0, 1, i), -1);
        }
        x.put(0, 0, 1);
        due("KEY 0", x.room(0, 1, 1), 0);
        x.drop(0, 7);
        due("empty again", x.room(0, 1, 0), -1);

        says("-2: there is none such.");
        for (int i : new int[] {-1, 4, Integer.MIN_VALUE, Integer.MAX_VALUE}) {
            due("no ROOM", x.room(0, 1, i), -2);
        }
        due("a BUCKET without ROOMS", x.room(0, 2, 0), -2);
        for (int j : new int[] {-1, 4, Integer.MIN_VALUE, Integer.MAX_VALUE}) {
            due("no BUCKET", x.room(0, j, 0), -2);
        }
        due("no TABLE", x.room(1, 1, 0), -2);
        for (int t : NO_TABLES) {
            due("no TABLE", x.room(t, 1, 0), -2);
        }
    }

    private static void place() {
        section("Promise 12");
        says("Of a KEY (there or not): its BUCKET (what 0), its ROOM (1; NONE if there are no ROOMS).");
        ClashFree x = made(8, 100, 0, 5);
        due("not there: BUCKET", x.place(0, 7, 0), 1);
        due("no ROOMS", x.place(0, 7, 1), -1);
        x.put(0, 7, 1);
        due("there: BUCKET", x.place(0, 7, 0), 1);
        due("there: ROOM", x.place(0, 7, 1), 0);
        due("not there: ROOM", x.place(0, 9, 1), 3);
        due("the least KEY", x.place(0, 0, 1), 1);
        due("the greatest KEY", x.place(0, TOP, 0), 3);
        due("the greatest KEY", x.place(0, TOP, 1), -1);

        says("-2 when something can't be.");
        for (int key : NO_KEYS) {
            due("no KEY", x.place(0, key, 0), -2);
            due("no KEY", x.place(0, key, 1), -2);
        }
        for (int what : new int[] {-1, 2, Integer.MAX_VALUE}) {
            due("what", x.place(0, 7, what), -2);
        }
        due("no TABLE", x.place(1, 7, 0), -2);
        for (int t : NO_TABLES) {
            due("no TABLE", x.place(t, 7, 0), -2);
        }

        says("(No READS.)");
        due("READS of the put alone", x.has(0, 8), 1);
    }

    private static void key() {
        section("Promise 13");
        says("The k-th KEY by numbers.");
        ClashFree x = made(8, 100, 0, 5);
        for (int key : new int[] {TOP, 5, 0, 1000}) {
            x.put(0, key, 1);
        }
        int[] keys = {0, 5, 1000, TOP};
        for (int k = 0; k < 4; k++) {
            due("KEY " + k, x.key(0, k), keys[k]);
        }
        ClashFree y = full();
        due("the first of 160", y.key(0, 0), 0);
        due("the last of 160", y.key(0, 159), 159);

        says("NONE when there is none such.");
        for (int k : new int[] {-1, 4, Integer.MIN_VALUE, Integer.MAX_VALUE}) {
            due("none such", x.key(0, k), -1);
        }
        due("of 160", y.key(0, 160), -1);
        due("without KEYS", made(8, 25, 0, 1).key(0, 0), -1);
        due("no TABLE", x.key(1, 0), -1);
        for (int t : NO_TABLES) {
            due("no TABLE", x.key(t, 0), -1);
        }
    }

    private static void walk() {
        section("Promise 14");
        says("The k-th KEY by BUCKETS, then ROOMS.");
        // All KEYS as room() tells them, within 512 calls of an object.
        ClashFree x = made(8, 100, 0, 5);
        for (int key : new int[] {7, 0, 9, 1, 2, 8}) {
            x.put(0, key, 1);
        }
        int k = 0;
        for (int j = 0; j < x.has(0, 3); j++) {
            int rooms = (int) (x.bucket(0, j, 1) * x.bucket(0, j, 1));
            for (int i = 0; i < rooms; i++) {
                int key = x.room(0, j, i);
                if (key >= 0) {
                    due("walk " + k, x.walk(0, k), key);
                    k++;
                }
            }
        }
        due("all six", k, 6);

        says("NONE when there is none such.");
        for (int no : new int[] {-1, 6, Integer.MIN_VALUE, Integer.MAX_VALUE}) {
            due("none such", x.walk(0, no), -1);
        }
        due("without KEYS", made(8, 25, 0, 1).walk(0, 0), -1);
        due("no TABLE", x.walk(1, 0), -1);
        for (int t : NO_TABLES) {
            due("no TABLE", x.walk(t, 0), -1);
        }
        ClashFree y = full();
        so("the last of 160", y.walk(0, 159) >= 0);
        due("of 160", y.walk(0, 160), -1);
    }

    private static void below() {
        section("Promise 15");
        says("How many KEYS are below one (0 .. 2147483647).");
        ClashFree x = made(8, 100, 0, 5);
        due("without KEYS", x.below(0, P), 0);
        x.put(0, 0, 1);
        x.put(0, 5, 1);
        x.put(0, TOP, 1);
        due("below 0", x.below(0, 0), 0);
        due("below 1", x.below(0, 1), 1);
        due("below one that is there", x.below(0, 5), 1);
        due("below one more", x.below(0, 6), 2);
        due("below the greatest KEY", x.below(0, TOP), 2);
        due("below 2147483647", x.below(0, P), 3);
        due("of 160", full().below(0, P), 160);
        due("of 160", full().below(0, 159), 159);

        says("NONE when that can't be.");
        due("-1", x.below(0, -1), -1);
        due("the least int", x.below(0, Integer.MIN_VALUE), -1);
        due("no TABLE", x.below(1, 5), -1);
        for (int t : NO_TABLES) {
            due("no TABLE", x.below(t, 5), -1);
        }
    }

    private static void nearest() {
        section("Promise 16");
        says("The KEY that is nearest to a number (0 .. 2147483646; itself, if it is there), of like ones the lesser.");
        ClashFree x = made(8, 100, 0, 5);
        x.put(0, 10, 1);
        due("of a single one, from below", x.nearest(0, 0), 10);
        due("of a single one, from above", x.nearest(0, TOP), 10);
        x.put(0, 20, 1);
        due("itself", x.nearest(0, 20), 20);
        due("like ones", x.nearest(0, 15), 10);
        due("one nearer above", x.nearest(0, 16), 20);
        due("one nearer below", x.nearest(0, 14), 10);
        x.put(0, TOP, 1);
        x.put(0, 0, 1);
        due("the least", x.nearest(0, 0), 0);
        due("the greatest", x.nearest(0, TOP), TOP);
        due("like ones", x.nearest(0, 5), 0);
        // Halfway of 20 and 2147483646.
        due("like ones far apart", x.nearest(0, 1073741833), 20);
        due("one more", x.nearest(0, 1073741834), TOP);

        says("NONE without KEYS, when that can't be.");
        due("without KEYS", made(8, 100, 0, 5).nearest(0, 5), -1);
        for (int key : NO_KEYS) {
            due("can't be", x.nearest(0, key), -1);
        }
        due("no TABLE", x.nearest(1, 5), -1);
        for (int t : NO_TABLES) {
            due("no TABLE", x.nearest(t, 5), -1);
        }
    }

    private static void many() {
        section("Promise 17");
        says("How many BUCKETS have just n KEYS.");
        ClashFree x = made(8, 100, 0, 5);
        due("0 of none", x.many(0, 0), 4);
        due("1 of none", x.many(0, 1), 0);
        x.put(0, 7, 1);
        x.put(0, 0, 1);
        x.put(0, 1, 1);
        due("0", x.many(0, 0), 2);
        due("1", x.many(0, 1), 1);
        due("2", x.many(0, 2), 1);
        due("3", x.many(0, 3), 0);
        due("160", x.many(0, 160), 0);
        due("the greatest int", x.many(0, Integer.MAX_VALUE), 0);

        says("NONE when there is no TABLE, or n is below 0.");
        due("below 0", x.many(0, -1), -1);
        due("below 0", x.many(0, Integer.MIN_VALUE), -1);
        due("no TABLE", x.many(1, 0), -1);
        for (int t : NO_TABLES) {
            due("no TABLE", x.many(t, 0), -1);
        }
    }

    private static void crowd() {
        section("Promise 18");
        says("The BUCKET of most KEYS, of like ones the first (what 0), how many (1), KEYS that share a BUCKET with others (2), "
            + "twos of KEYS in one BUCKET (3).");
        ClashFree x = made(8, 100, 0, 5);
        for (int what = 0; what <= 3; what++) {
            due("without KEYS, " + what, x.crowd(0, what), 0);
        }
        // By s 5 the KEYS 7, 0, 9 are in BUCKET 1, 1 in 2, 2 in 0, 8 in 3.
        x.put(0, 8, 1);
        due("one: the last BUCKET", x.crowd(0, 0), 3);
        due("one: how many", x.crowd(0, 1), 1);
        due("one: shares with none", x.crowd(0, 2), 0);
        x.put(0, 1, 1);
        due("like ones: the first", x.crowd(0, 0), 2);
        x.put(0, 7, 1);
        due("like ones: the first", x.crowd(0, 0), 1);
        x.put(0, 0, 1);
        int[] two = {1, 2, 2, 1};
        for (int what = 0; what <= 3; what++) {
            due("two of four, " + what, x.crowd(0, what), two[what]);
        }
        ClashFree y = oneBucket(3, 4, 5, 6);
        int[] four = {0, 4, 4, 6};
        for (int what = 0; what <= 3; what++) {
            due("four in one, " + what, y.crowd(0, what), four[what]);
        }

        says("NONE when there is no TABLE, or for others.");
        for (int what : new int[] {-1, 4, Integer.MAX_VALUE}) {
            due("others", x.crowd(0, what), -1);
        }
        due("no TABLE", x.crowd(1, 0), -1);
        for (int t : NO_TABLES) {
            due("no TABLE", x.crowd(t, 0), -1);
        }
    }

    private static void empty() {
        section("Promise 19");
        says("How many empty ROOMS there are.");
        ClashFree x = made(8, 100, 0, 5);
        due("no ROOMS", x.empty(0), 0);
        x.put(0, 7, 1);
        due("of four", x.empty(0), 3);
        x.put(0, 0, 1);
        due("of four", x.empty(0), 2);
        x.drop(0, 7);
        x.drop(0, 0);
        due("all of four", x.empty(0), 4);
        ClashFree y = full();
        due("of 160", y.empty(0), y.has(0, 4) - 160);

        says("NONE when there is no TABLE.");
        due("no TABLE", x.empty(1), -1);
        for (int t : NO_TABLES) {
            due("no TABLE", x.empty(t), -1);
        }
    }

    private static void left() {
        section("Promise 20");
        says("How many DROPS or PUTS of KEYS that are not there can still come (each that is done) till ALL is BUILT for COUNT: "
            + "the first by which it is.");
        ClashFree x = made(64, 400, 0, 5);
        due("LIMIT 4, COUNT 0: by the fifth", x.left(0), 5);
        int n = x.left(0);
        for (int k = 1; k < n; k++) {
            so("not by this one", k % 2 == 1 ? x.put(0, 7, 1) < 4 : x.drop(0, 7) == 1);
            due("one less", x.left(0), n - k);
        }
        due("the last", x.left(0), 1);
        due("by this one it is", x.put(0, 7, 2), 4);
        ClashFree y = made(64, 400, 0, 5);
        y.put(0, 7, 1);
        y.put(0, 7, 2);
        y.drop(0, 8);
        y.put(0, -1, 1);
        due("what is not done, or there, does not count", y.left(0), 4);
        for (int key = 20; key < 23; key++) {
            so("not yet", y.put(0, key, 1) < 4);
        }
        due("the last", y.left(0), 1);
        due("it is", y.put(0, 23, 1), 4);
        due("LIMIT 9, COUNT 5", y.left(0), 5);
        ClashFree z = full();
        int before = z.left(0);
        z.put(0, 500, 1);
        due("a put as there are 160 is not done", z.left(0), before);

        says("NONE when there is no TABLE.");
        due("no TABLE", x.left(1), -1);
        for (int t : NO_TABLES) {
            due("no TABLE", x.left(t), -1);
        }
    }

    private static void outer() {
        section("Promise 21");
        says("With an outer PAIR (a 1 .. P less 1, b 0 .. P less 1) among n BUCKETS (1 .. 2048) what SUM would be "
            + "(what 0: ROOFS twice the KEYS; 1: ROOFS the KEYS), the most KEYS in a BUCKET (2), BUCKETS without KEYS (3).");
        ClashFree x = made(8, 100, 0, 5);
        int[] none = {0, 0, 0, 2048};
        for (int what = 0; what <= 3; what++) {
            due("without KEYS, " + what, x.outer(0, 1, 0, 2048, what), none[what]);
        }
        for (int key : new int[] {1, 4, 7, 8, 12}) {
            x.put(0, key, 1);
        }
        List<Long> before = stateOf(x, 0);
        long[] three = {4 * 11, 11, 3, 0};
        long[] one = {100, 25, 5, 0};
        long[] most = {20, 5, 1, 2043};
        for (int what = 0; what <= 3; what++) {
            due("among 3, " + what, x.outer(0, 1, 0, 3, what), three[what]);
            due("among 1, " + what, x.outer(0, TOP, TOP, 1, what), one[what]);
            due("among 2048, " + what, x.outer(0, 1, 0, 2048, what), most[what]);
        }
        // b of P less 1 takes one off: 0, 3, 6, 7, 11.
        due("b of P less 1", x.outer(0, 1, TOP, 3, 2), 3);
        due("a of P less 1: P less KEY", x.outer(0, TOP, 0, 2048, 2), 1);
        so("on paper", stateOf(x, 0).equals(before));

        says("NOTHING when something can't be.");
        int[][] cannot = {{1, 1, 0, 3, 0}, {0, 0, 0, 3, 0}, {0, -1, 0, 3, 0}, {0, P, 0, 3, 0}, {0, 1, -1, 3, 0}, {0, 1, P, 3, 0},
            {0, 1, 0, 0, 0}, {0, 1, 0, -1, 0}, {0, 1, 0, 2049, 0}, {0, 1, 0, Integer.MAX_VALUE, 0}, {0, 1, 0, 3, -1}, {0, 1, 0, 3, 4}};
        for (int[] no : cannot) {
            due("can't be", x.outer(no[0], no[1], no[2], no[3], no[4]), NOTHING);
        }
        for (int t : NO_TABLES) {
            due("no TABLE", x.outer(t, 1, 0, 3, 0), NOTHING);
        }
    }

    private static void best() {
        section("Promise 22");
        says("Of n outer PAIRS (1 .. 200) drawn by a told s the first with the least SUM among as many BUCKETS as there are "
            + "(ROOFS twice the KEYS): which (what 0; 0 on), that SUM (1), how many have one of BOUND times LIMIT at most (2).");
        ClashFree x = made(8, 100, 0, 5);
        due("without KEYS the first", x.best(0, 200, 9, 0), 0);
        due("without KEYS 0", x.best(0, 200, 9, 1), 0);
        due("without KEYS all", x.best(0, 200, 9, 2), 200);
        ClashFree y = sixty();
        List<Long> before = stateOf(y, 0);
        Draws paper = new Draws(-7);
        int first = 0;
        long least = Long.MAX_VALUE;
        int within = 0;
        for (int n = 1; n <= 200; n++) {
            paper.pair();
            long sum = y.outer(0, (int) paper.a, (int) paper.b, 64, 0);
            if (sum < least) {
                first = n - 1;
                least = sum;
            }
            within += sum <= y.has(0, 5) ? 1 : 0;
            if (n < 4 || n > 197) {
                due("which of " + n, y.best(0, n, -7, 0), first);
                due("SUM of " + n, y.best(0, n, -7, 1), least);
                due("within of " + n, y.best(0, n, -7, 2), within);
            }
        }
        so("not all, not none", within > 0 && within < 200);
        so("on paper", stateOf(y, 0).equals(before));

        says("NOTHING when something can't be.");
        for (int n : new int[] {0, -1, 201, Integer.MAX_VALUE}) {
            due("n", x.best(0, n, 9, 0), NOTHING);
        }
        for (int what : new int[] {-1, 3}) {
            due("what", x.best(0, 5, 9, what), NOTHING);
        }
        due("no TABLE", x.best(1, 5, 9, 0), NOTHING);
        for (int t : NO_TABLES) {
            due("no TABLE", x.best(t, 5, 9, 0), NOTHING);
        }
    }

    private static void inner() {
        section("Promise 23");
        says("With a PAIR how many twos of KEYS of a BUCKET would have one ROOM.");
        ClashFree x = oneBucket(1, 17, 33, 49);
        due("ROOF", x.bucket(0, 0, 1), 4);
        due("four in one ROOM", x.inner(0, 0, 1, 0), 6);
        due("b at its most", x.inner(0, 0, 1, TOP), 6);
        so("a at its most", x.inner(0, 0, TOP, TOP) >= 0);
        due("its own PAIR", x.inner(0, 0, (int) x.bucket(0, 0, 2), (int) x.bucket(0, 0, 3)), 0);
        x.drop(0, 1);
        due("COUNT above LIMIT: BUILT", x.has(0, 11), 1);
        ClashFree y = oneBucket(5);
        due("a single KEY", y.inner(0, 0, 1, 0), 0);
        y.drop(0, 5);
        due("ROOMS without KEYS", y.inner(0, 0, 1, 0), 0);

        says("NONE when something can't be, it has no ROOMS.");
        ClashFree z = full();
        z.make(0, 8, 25, 0, 1);
        z.put(0, 5, 1);
        for (int j = 1; j < 64; j++) {
            due("a BUCKET that was", z.inner(0, j, 1, 0), -1);
        }
        for (int a : new int[] {0, -1, P, Integer.MIN_VALUE}) {
            due("a", y.inner(0, 0, a, 0), -1);
        }
        for (int b : new int[] {-1, P, Integer.MIN_VALUE}) {
            due("b", y.inner(0, 0, 1, b), -1);
        }
        for (int j : new int[] {-1, 1, 2048, Integer.MAX_VALUE}) {
            due("no BUCKET", y.inner(0, j, 1, 0), -1);
        }
        due("no ROOMS", made(8, 25, 0, 1).inner(0, 0, 1, 0), -1);
        due("no TABLE", y.inner(1, 0, 1, 0), -1);
        for (int t : NO_TABLES) {
            due("no TABLE", y.inner(t, 0, 1, 0), -1);
        }
    }

    private static void tries() {
        section("Promise 24");
        says("Of n PAIRS (1 .. 200) drawn by a told s the first (0 on) by which a BUCKET would have no clash (what 0; NONE: none), "
            + "how many would (1).");
        ClashFree x = oneBucket(1, 17, 33, 49);
        List<Long> before = stateOf(x, 0);
        boolean none = false;
        for (int s = 0; s < 20; s++) {
            Draws paper = new Draws(s);
            int first = -1;
            int good = 0;
            for (int n = 1; n <= 8; n++) {
                paper.pair();
                boolean fits = x.inner(0, 0, (int) paper.a, (int) paper.b) == 0;
                first = first < 0 && fits ? n - 1 : first;
                good += fits ? 1 : 0;
                none |= n == 8 ? false : first < 0;
                if (n == 1 || n == 8) {
                    due("the first of " + n, x.tries(0, 0, n, s, 0), first);
                    due("how many of " + n, x.tries(0, 0, n, s, 1), good);
                }
            }
        }
        so("none was seen", none);
        so("200", x.tries(0, 0, 200, 5, 1) > x.tries(0, 0, 100, 5, 1));
        so("on paper", stateOf(x, 0).equals(before));
        ClashFree y = oneBucket(5);
        due("a single KEY never clashes", y.tries(0, 0, 200, 1, 1), 200);
        due("a single KEY: the first", y.tries(0, 0, 1, 1, 0), 0);
        y.drop(0, 5);
        due("ROOMS without KEYS", y.tries(0, 0, 200, 1, 1), 200);

        says("-2 when something can't be, it has no ROOMS.");
        ClashFree z = full();
        z.make(0, 8, 25, 0, 1);
        z.put(0, 5, 1);
        for (int j = 1; j < 64; j++) {
            due("a BUCKET that was", z.tries(0, j, 5, 1, 0), -2);
        }
        for (int n : new int[] {0, -1, 201, Integer.MAX_VALUE}) {
            due("n", y.tries(0, 0, n, 1, 0), -2);
        }
        for (int what : new int[] {-1, 2}) {
            due("what", y.tries(0, 0, 5, 1, what), -2);
        }
        for (int j : new int[] {-1, 1, 2048, Integer.MAX_VALUE}) {
            due("no BUCKET", y.tries(0, j, 5, 1, 0), -2);
        }
        due("no ROOMS", made(8, 25, 0, 1).tries(0, 0, 5, 1, 0), -2);
        due("no TABLE", y.tries(1, 0, 5, 1, 0), -2);
        for (int t : NO_TABLES) {
            due("no TABLE", y.tries(t, 0, 5, 1, 0), -2);
        }
    }

    private static void would() {
        section("Promise 25");
        says("What a PUT of a KEY with VALUE 0 would tell (0 .. 4).");
        boolean[] seen = new boolean[5];
        ClashFree x = made(8, 100, 0, 5);
        for (int n = 0; n < 120; n++) {
            int key = n * n % 67;
            long s = x.has(0, 13);
            int told = x.would(0, key);
            due("s stays", x.has(0, 13), s);
            due("what put() tells", x.put(0, key, n), told);
            seen[told] = true;
        }
        for (int told = 0; told < 5; told++) {
            so("seen " + told, seen[told]);
        }
        List<Long> before = stateOf(x, 0);
        for (int key = 0; key < 40; key++) {
            x.would(0, key * 31);
        }
        so("all stays, VALUES too", stateOf(x, 0).equals(before));

        says("-2, -3 likewise.");
        for (int key : NO_KEYS) {
            due("no KEY", x.would(0, key), -2);
        }
        due("no TABLE", x.would(1, 5), -2);
        for (int t : NO_TABLES) {
            due("no TABLE", x.would(t, 5), -2);
        }
        ClashFree y = full();
        due("there are 160", y.would(0, 500), -3);
        due("no KEY as there are 160", y.would(0, P), -2);
        due("one that is there", y.would(0, 5), 0);
        due("put likewise", y.put(0, 5, 0), 0);
        y.drop(0, 5);
        so("there are 159", y.would(0, 500) > 0);
    }

    private static void frozen() {
        section("Promise 26");
        says("FROZEN by s: 0 ROOMS of all, 1 outer PAIRS that were drawn, 2 PAIRS of BUCKETS drawn, "
            + "3 the least ROOM (of all, BUCKET by BUCKET, from 0 on) that has a KEY (NONE), 4 the last.");
        ClashFree x = made(8, 100, 0, 5);
        int[] none = {0, 1, 0, -1, -1};
        for (int what = 0; what <= 4; what++) {
            due("without KEYS, " + what, x.frozen(0, 5, what), none[what]);
        }
        x.put(0, TOP, 1);
        int[] one = {1, 1, 1, 0, 0};
        for (int what = 0; what <= 4; what++) {
            due("of one, " + what, x.frozen(0, 5, what), one[what]);
            due("by the least s", x.frozen(0, Long.MIN_VALUE, what), one[what]);
        }
        ClashFree y = sixty();
        List<Long> before = stateOf(y, 0);
        for (int s = 0; s < 3; s++) {
            int least = Integer.MAX_VALUE;
            int last = -1;
            for (int i = 0; i < 60; i++) {
                int room = y.frozenAt(0, s, i * i * 7919 + i);
                least = Math.min(least, room);
                last = Math.max(last, room);
            }
            due("the least", y.frozen(0, s, 3), least);
            due("the last", y.frozen(0, s, 4), last);
            so("ROOMS", y.frozen(0, s, 0) > last && y.frozen(0, s, 0) >= 60 && y.frozen(0, s, 0) <= 180);
            so("PAIRS", y.frozen(0, s, 1) >= 1 && y.frozen(0, s, 2) >= 1);
        }
        so("on paper", stateOf(y, 0).equals(before));
        for (int what = 0; what <= 4; what++) {
            y.make(1, 8, 100, 0, 5);
            y.put(1, TOP, 1);
            due("of one behind sixty, " + what, y.frozen(1, 5, what), one[what]);
            y.make(1, 8, 100, 0, 5);
            due("of none behind sixty, " + what, y.frozen(1, 5, what), none[what]);
            y.frozen(0, 5, what);
        }

        says("NOTHING when there is no TABLE, or for others; -2: not by 1000 PAIRS.");
        // -2 comes of no run of calls; TermsTest brings it about, in "(1000 PAIRS at most)".
        for (int what : new int[] {-1, 5, Integer.MAX_VALUE}) {
            due("others", x.frozen(0, 5, what), NOTHING);
        }
        due("no TABLE", x.frozen(1, 5, 0), NOTHING);
        for (int t : NO_TABLES) {
            due("no TABLE", x.frozen(t, 5, 0), NOTHING);
        }
    }

    private static void frozenAt() {
        section("Promise 27");
        says("FROZEN by s: in which ROOM (of all) a KEY lies.");
        ClashFree x = made(8, 100, 0, 5);
        x.put(0, TOP, 1);
        due("a single KEY", x.frozenAt(0, 5, TOP), 0);
        ClashFree y = full();
        boolean[] taken = new boolean[480];
        for (int key = 0; key < 160; key++) {
            int room = y.frozenAt(0, -3, key);
            so("a ROOM of its own", room >= 0 && room < 480 && !taken[room]);
            taken[Math.max(0, Math.min(479, room))] = true;
        }

        says("NONE: it is not there, there is no TABLE; -2: not by 1000 PAIRS.");
        due("not there", x.frozenAt(0, 5, 0), -1);
        for (int key : NO_KEYS) {
            due("no KEY", x.frozenAt(0, 5, key), -1);
        }
        due("without KEYS", made(8, 25, 0, 1).frozenAt(0, 5, 0), -1);
        due("no TABLE", x.frozenAt(1, 5, TOP), -1);
        for (int t : NO_TABLES) {
            due("no TABLE", x.frozenAt(t, 5, TOP), -1);
        }
    }

    private static void shared() {
        section("Promise 28");
        says("How many KEYS both have (what 0), one or both (1), the first alone (2), both with like VALUES (3).");
        ClashFree x = two();
        int[] both = {2, 5, 2, 1};
        int[] turned = {2, 5, 1, 1};
        int[] itself = {4, 4, 0, 4};
        int[] none = {0, 4, 4, 0};
        int[] turnedNone = {0, 4, 0, 0};
        x.make(2, 8, 25, 0, 1);
        for (int what = 0; what <= 3; what++) {
            due("shared " + what, x.shared(0, 1, what), both[what]);
            due("turned " + what, x.shared(1, 0, what), turned[what]);
            due("with itself " + what, x.shared(0, 0, what), itself[what]);
            due("with none " + what, x.shared(0, 2, what), none[what]);
            due("of none " + what, x.shared(2, 0, what), turnedNone[what]);
            due("none with itself " + what, x.shared(2, 2, what), 0);
        }
        ClashFree y = full();
        y.copy(1, 0);
        due("160", y.shared(0, 1, 3), 160);

        says("NONE when there are none such, or for others.");
        for (int what : new int[] {-1, 4}) {
            due("others", x.shared(0, 1, what), -1);
        }
        due("none such", x.shared(0, 3, 0), -1);
        due("none such", x.shared(3, 0, 0), -1);
        due("none such", x.shared(3, 3, 0), -1);
        for (int t : NO_TABLES) {
            due("none such", x.shared(t, 0, 0), -1);
            due("none such", x.shared(0, t, 0), -1);
        }
    }

    private static void join() {
        section("Promise 29");
        says("KEYS of another TABLE (by numbers) are PUT into one (with the other's VALUES),");
        ClashFree x = two();
        x.copy(2, 0);
        List<Long> other = stateOf(x, 1);
        due("join", x.join(0, 1), 1);
        so("the other stays", stateOf(x, 1).equals(other));
        due("another VALUE", x.get(0, 30), 9);
        due("a new KEY's VALUE", x.get(0, 50), 5);
        due("one the other has not", x.get(0, 10), 1);
        // By numbers: as these puts are, READS apart.
        x.put(2, 20, 2);
        x.put(2, 30, 9);
        x.put(2, 50, 5);
        for (int what = 0; what <= 16; what++) {
            due("as by puts, " + what, what == 8 ? 0 : x.has(0, what), what == 8 ? 0 : x.has(2, what));
        }
        ClashFree many = two();
        many.make(2, 8, 25, 0, 9);
        many.make(3, 8, 25, 0, 9);
        due("into one without KEYS", many.join(2, 0), 4);
        for (int k = 0; k < 4; k++) {
            many.put(3, many.key(0, k), 0);
        }
        due("in their order", many.has(2, 13), many.has(3, 13));
        due("no READS of it", many.has(2, 8), 0);
        many.make(3, 8, 25, 0, 9);
        due("of one without KEYS", many.join(0, 3), 0);

        says("till one that is not there comes as there are 160: how many were not there;");
        ClashFree y = full();
        y.drop(0, 7);
        back(y, 1, imageOf(8, 100, 0, 2, 5, 50, 200, 70, 201, 80, 300, 81));
        due("the 160th comes, no more", y.join(0, 1), 1);
        due("there: another VALUE", y.get(0, 5), 50);
        due("the 160th", y.get(0, 200), 70);
        due("a 161st", y.get(0, 201), NOTHING);
        due("none behind it", y.get(0, 300), NOTHING);
        due("KEYS", y.has(0, 0), 160);
        back(y, 1, imageOf(8, 100, 0, 2, 5, 51, 158, 61, 159, 62));
        due("all there as there are 160", y.join(0, 1), 0);
        due("another VALUE", y.get(0, 159), 62);
        back(y, 1, imageOf(8, 100, 0, 2, 5, 52, 155, 63, 199, 64, 200, 65));
        due("it ends at one that is not there", y.join(0, 1), 0);
        due("those ahead are PUT", y.get(0, 155), 63);
        due("one behind it is not, though it is there", y.get(0, 200), 70);
        long count = y.has(0, 2);
        y.join(0, 1);
        due("the one at which it ends is not counted", y.has(0, 2), count);

        says("-2 (itself, too).");
        due("itself", x.join(0, 0), -2);
        due("no TABLE", x.join(0, 3), -2);
        due("no TABLE", x.join(3, 0), -2);
        due("no TABLE itself", x.join(3, 3), -2);
        for (int t : NO_TABLES) {
            due("no TABLE", x.join(t, 0), -2);
            due("no TABLE", x.join(0, t), -2);
            due("no TABLE itself", x.join(t, t), -2);
        }
    }

    private static void cut() {
        section("Promise 30");
        says("KEYS that another TABLE has (also: has not) are DROPPED, by numbers: how many;");
        ClashFree x = two();
        x.copy(2, 0);
        x.copy(3, 0);
        List<Long> other = stateOf(x, 1);
        due("that it has", x.cut(0, 1, true), 2);
        so("the other stays", stateOf(x, 1).equals(other));
        due("left", x.key(0, 0), 10);
        due("left", x.key(0, 1), 40);
        due("COUNT", x.has(0, 2), 6);
        due("no READS of it", x.has(0, 8), 0);
        due("that it has not", x.cut(2, 1, false), 2);
        due("left", x.key(2, 0), 20);
        due("left", x.key(2, 1), 30);
        due("again none", x.cut(2, 1, false), 0);
        x.drop(3, 20);
        x.drop(3, 30);
        for (int what = 0; what <= 16; what++) {
            due("as by drops, " + what, what == 8 ? 0 : x.has(0, what), what == 8 ? 0 : x.has(3, what));
        }
        ClashFree y = full();
        y.make(1, 8, 25, 0, 1);
        due("by one without KEYS", y.cut(0, 1, true), 0);
        due("of one without KEYS", y.cut(1, 0, false), 0);
        y.copy(2, 0);
        due("all 160", y.cut(0, 1, false), 160);
        due("none is left", y.has(0, 0), 0);
        for (int key = 0; key < 160; key++) {
            y.drop(2, key);
        }
        due("by numbers", y.has(0, 13), y.has(2, 13));
        due("ALL BUILT as often", y.has(0, 11), y.has(2, 11));

        says("-2 (itself, too).");
        ClashFree z = two();
        due("itself", z.cut(0, 0, true), -2);
        due("itself", z.cut(0, 0, false), -2);
        due("no TABLE", z.cut(0, 2, false), -2);
        due("no TABLE", z.cut(2, 0, true), -2);
        for (int t : NO_TABLES) {
            due("no TABLE", z.cut(t, 0, true), -2);
            due("no TABLE", z.cut(0, t, false), -2);
        }
        due("KEYS stay", z.has(0, 0), 4);
    }

    private static void values() {
        section("Promise 31");
        says("The KEY with the greatest VALUE, of like ones the least (what 0; NONE), that VALUE (1; NOTHING), "
            + "the sum of all VALUES (2).");
        ClashFree x = new ClashFree();
        x.make(0, 8, 25, 0, 1);
        due("without KEYS", x.values(0, 0), -1);
        due("without KEYS", x.values(0, 1), NOTHING);
        due("without KEYS", x.values(0, 2), 0);
        x.put(0, 9, Integer.MIN_VALUE);
        due("the least VALUE", x.values(0, 0), 9);
        due("the least VALUE", x.values(0, 1), Integer.MIN_VALUE);
        x.put(0, 5, Integer.MIN_VALUE);
        due("like ones", x.values(0, 0), 5);
        due("a sum below ints", x.values(0, 2), -4294967296L);
        x.put(0, 7, -1);
        due("the greatest below 0", x.values(0, 0), 7);
        back(x, 1, imageOf(8, 100, 0, 1, 10, 7, 20, 8, 30, 8, 40, 3));
        due("like ones", x.values(1, 0), 20);
        due("that VALUE", x.values(1, 1), 8);
        due("sum", x.values(1, 2), 26);
        int[] most = new int[320];
        for (int k = 0; k < 160; k++) {
            most[2 * k] = k;
            most[2 * k + 1] = Integer.MAX_VALUE;
        }
        back(x, 2, imageOf(8, 100, 0, 1, most));
        due("a sum above ints", x.values(2, 2), 160L * Integer.MAX_VALUE);
        due("like ones", x.values(2, 0), 0);

        says("NOTHING when there is no TABLE, or for others.");
        for (int what : new int[] {-1, 3}) {
            due("others", x.values(1, what), NOTHING);
            due("others without KEYS", x.values(0, what), NOTHING);
        }
        due("no TABLE", x.values(3, 0), NOTHING);
        for (int t : NO_TABLES) {
            due("no TABLE", x.values(t, 2), NOTHING);
        }
    }

    private static void run() {
        section("Promise 32");
        says("The tape (it goes, if there is a TABLE) is a PROGRAM, done with a TABLE: STEPS that were done;");
        ClashFree x = made(8, 25, 0, 1);
        due("an empty tape", x.run(0), 0);
        due("done", run(x, 0, "put 5 as 6;get 5;"), 2);
        due("with the TABLE", x.get(0, 5), 6);
        due("the tape goes", x.count(2), 0);
        due("again there is none", x.run(0), 0);
        x.make(1, 8, 25, 0, 1);
        due("done with another", run(x, 1, "put 7 as 8;"), 1);
        due("not with the first", x.get(0, 7), NOTHING);

        says("NONE with a FAULT (nothing is done);");
        List<Long> before = stateOf(x, 0);
        due("a FAULT at the end", run(x, 0, "put 8 as 9;drop 5;get 5;let"), -1);
        so("nothing is done", stateOf(x, 0).equals(before));
        due("the tape goes", x.count(2), 0);
        due("a FAULT 2", run(x, 0, "put 8 as 9;for 201[];"), -1);
        due("a FAULT 3", run(x, 0, "put 8 as 9;let (((((((((1)))))))));"), -1);
        so("nothing is done", stateOf(x, 0).equals(before));

        says("-2: no TABLE.");
        Checks.feed(x, bytesOf("let 5;"));
        due("no TABLE yet", x.run(2), -2);
        for (int t : NO_TABLES) {
            due("no TABLE", x.run(t), -2);
        }
        due("the tape stays", x.count(2), 6);
        due("it is done later", x.run(1), 1);

        says("(A 301st STEP: 300.)");
        due("just 300", run(x, 0, "for 150[let i;];"), 300);
        due("a 301st", run(x, 0, "for 150[let i;];let 1;"), 300);
        due("299", run(x, 0, "for 149[let i;];let 1;"), 299);
    }

    private static void ran() {
        section("Promise 33");
        says("Of the latest run() that was not -2:");
        ClashFree x = made(8, 25, 0, 1);
        run(x, 0, "for 200[drop 1;let i;];");
        x.feed(1, 2, 3, 4, 5);
        x.run(1);
        long[] all = {0, -1, -1, 100, 99, 1};
        for (int what = 0; what <= 5; what++) {
            due("ran " + what + " behind a -2", x.ran(what), all[what]);
        }
        x.make(0, 8, 25, 0, 1);
        x.make(1, 8, 25, 0, 1);
        for (int what = 0; what <= 5; what++) {
            due("ran " + what + " behind make()", x.ran(what), all[what]);
        }
        x.end(0);
        run(x, 1, "let 5;");
        due("of another TABLE", x.ran(4), 5);

        says("0 its FAULT (0 without, and ahead of any), 1 its place (NONE), 2 DEPTH (NONE),");
        ClashFree y = made(8, 25, 0, 1);
        long[] ahead = {0, -1, -1, 0, 0, 0};
        for (int what = 0; what <= 5; what++) {
            due("ahead of any, " + what, y.ran(what), ahead[what]);
        }
        run(y, 0, "for 1[if 1[for 201[];];];");
        due("FAULT", y.ran(0), 2);
        due("place", y.ran(1), 15);
        due("DEPTH", y.ran(2), 2);
        run(y, 0, "let 5;");
        due("without", y.ran(0), 0);
        due("without", y.ran(1), -1);
        due("without", y.ran(2), -1);
        run(y, 0, "?");
        due("place 0", y.ran(1), 0);
        due("DEPTH 0", y.ran(2), 0);

        says("3 REFUSED ones (0 with a FAULT),");
        run(y, 0, "drop 5;get 0-1;let 5;put 0-1 as 5;");
        due("three", y.ran(3), 3);
        run(y, 0, "drop 5;drop 6;let");
        due("with a FAULT", y.ran(3), 0);
        run(y, 0, "let 5;");
        due("none", y.ran(3), 0);

        says("4 x behind it (0 with a FAULT, ahead of any),");
        run(y, 0, "let 0-5;");
        due("x below 0", y.ran(4), -5);
        run(y, 0, "let 5;let");
        due("with a FAULT", y.ran(4), 0);
        run(y, 0, "let 9;");
        run(y, 0, "");
        due("of an empty text", y.ran(4), 0);
        due("ahead of any", new ClashFree().ran(4), 0);

        says("5: 1 if a 301st STEP ended it, else 0.");
        run(y, 0, "for 200[let i;];");
        due("ended", y.ran(5), 1);
        run(y, 0, "for 150[let i;];");
        due("just 300", y.ran(5), 0);
        run(y, 0, "for 200[let i;];");
        run(y, 0, "for 200[let i;];let");
        due("with a FAULT", y.ran(5), 0);

        says("NOTHING for others.");
        for (int what : new int[] {-1, 6, Integer.MIN_VALUE, Integer.MAX_VALUE}) {
            due("others", y.ran(what), NOTHING);
        }
    }

    private static void image() {
        section("Promise 34");
        says("AN IMAGE of a TABLE is written: BOUND, SPREAD, GROWTH (a byte, two, one, the higher ahead), "
            + "s (8 bytes, the highest first), KEYS (a byte), then KEYS by numbers, each with its VALUE (4 bytes each, the highest first), "
            + "at the end a byte c: 7 at first, for each byte (5 c and it) mod 253: how many bytes.");
        ClashFree x = made(64, 400, 200, -1);
        due("without KEYS", x.image(0), 14);
        int[] none = imageOf(64, 400, 200, x.has(0, 13));
        for (int i = 0; i < 14; i++) {
            due("byte " + i, x.octet(i), none[i]);
        }
        x.put(0, TOP, Integer.MIN_VALUE);
        x.put(0, 0, -1);
        x.put(0, 256, 255);
        due("with three", x.image(0), 38);
        int[] three = imageOf(64, 400, 200, x.has(0, 13), 0, -1, 256, 255, TOP, Integer.MIN_VALUE);
        for (int i = 0; i < 38; i++) {
            due("byte " + i, x.octet(i), three[i]);
        }
        ClashFree y = full();
        due("with 160", y.image(0), 1294);
        due("KEYS", y.octet(12), 160);
        due("the last KEY", y.octet(13 + 8 * 159 + 3), 159);
        so("c", y.octet(1293) >= 0 && y.octet(1293) < 253);
        // By 3000 numbers s the least and the greatest c come, too.
        boolean[] seen = new boolean[253];
        for (int n = 0; n < 3000; n++) {
            ClashFree z = made(8, 25, 0, n);
            z.image(0);
            int c = z.octet(13);
            int[] due = imageOf(8, 25, 0, z.has(0, 13));
            due("c", c, due[13]);
            seen[Math.max(0, Math.min(252, c))] = true;
        }
        so("0 is one", seen[0]);
        so("252 is one", seen[252]);

        says("NONE when there is no TABLE.");
        due("no TABLE", x.image(1), -1);
        for (int t : NO_TABLES) {
            due("no TABLE", x.image(t), -1);
        }
    }

    private static void octet() {
        section("Promise 35");
        says("Byte i of the latest image().");
        ClashFree x = two();
        x.image(0);
        due("KEYS of the first", x.octet(12), 4);
        due("the first byte", x.octet(0), 8);
        x.image(1);
        due("KEYS of the latest", x.octet(12), 3);
        x.put(1, 60, 1);
        x.make(1, 9, 25, 0, 1);
        due("it stays as it was written", x.octet(12), 3);
        due("it stays as it was written", x.octet(0), 8);
        x.image(3);
        due("none was written since", x.octet(12), 3);

        says("NONE when there is none such.");
        so("the last", x.octet(37) >= 0);
        for (int i : new int[] {-1, 38, 1294, Integer.MIN_VALUE, Integer.MAX_VALUE}) {
            due("none such", x.octet(i), -1);
        }
        x.image(0);
        so("the last of a longer one", x.octet(45) >= 0);
        x.image(1);
        due("a shorter one ends sooner", x.octet(14), -1);
        due("ahead of any", new ClashFree().octet(0), -1);
    }

    private static void back() {
        section("Promise 36");
        says("The tape (it goes, if t can be) is AN IMAGE: TABLE t is made by it (BOUND, SPREAD, GROWTH, s), "
            + "ALL is BUILT with these KEYS (as it is made): how many KEYS;");
        ClashFree x = new ClashFree();
        due("without KEYS", back(x, 3, imageOf(64, 400, 200, Long.MIN_VALUE)), 0);
        ClashFree y = new ClashFree();
        y.make(3, 64, 400, 200, Long.MIN_VALUE);
        so("as by make()", stateOf(x, 3).equals(stateOf(y, 3)));
        due("the tape goes", x.count(2), 0);
        due("the edges of KEYS and VALUES", back(x, 0, imageOf(8, 25, 0, -1, 0, Integer.MIN_VALUE, TOP, Integer.MAX_VALUE)), 2);
        due("the least", x.get(0, 0), Integer.MIN_VALUE);
        due("the greatest", x.get(0, TOP), Integer.MAX_VALUE);
        due("not counted as ALL BUILT", x.has(0, 11), 0);
        due("laid", x.has(0, 12), 2);
        due("in place of another", back(x, 0, imageOf(9, 26, 1, 5, 3, 3)), 1);
        due("its KEYS went", x.get(0, 0), NOTHING);
        int[] most = new int[322];
        for (int k = 0; k < 161; k++) {
            most[2 * k] = k;
        }
        due("160", back(x, 2, imageOf(8, 100, 0, 5, java.util.Arrays.copyOf(most, 320))), 160);
        due("what image() wrote", x.image(2), 1294);
        int[] bytes = new int[1294];
        for (int i = 0; i < 1294; i++) {
            bytes[i] = x.octet(i);
        }
        ClashFree other = new ClashFree();
        due("comes back", back(other, 1, bytes), 160);
        due("its last KEY", other.key(1, 159), 159);

        says("NONE: it is none (KEYS rising, all numbers as told; all else stays);");
        ClashFree z = two();
        List<Long> before = stateOf(z, 0);
        due("an empty tape", back(z, 0, new int[0]), -1);
        due("KEYS falling", back(z, 0, imageOf(8, 100, 0, 5, 9, 70, 7, -1)), -1);
        due("like KEYS", back(z, 0, imageOf(8, 100, 0, 5, 9, 70, 9, 70)), -1);
        due("like KEYS of 0", back(z, 0, imageOf(8, 100, 0, 5, 0, 70, 0, 70)), -1);
        due("2147483647", back(z, 0, imageOf(8, 100, 0, 5, 9, 70, P, 1)), -1);
        due("a KEY below 0", back(z, 0, imageOf(8, 100, 0, 5, -1, 70, 9, 1)), -1);
        due("a KEY below 0", back(z, 0, imageOf(8, 100, 0, 5, 9, 1, Integer.MIN_VALUE, 70)), -1);
        int[][] settings = {{7, 100, 0}, {65, 100, 0}, {8, 24, 0}, {8, 401, 0}, {8, 65535, 0}, {8, 100, 201}, {255, 100, 0}, {8, 100, 255}};
        for (int[] one : settings) {
            due("numbers not as told", back(z, 0, imageOf(one[0], one[1], one[2], 5)), -1);
        }
        due("161 KEYS", back(z, 0, imageOf(8, 100, 0, 5, most)), -1);
        int[] good = imageOf(8, 100, 0, 5, 7, 70, 9, 90);
        for (int length = 1; length < good.length; length++) {
            due("cut at " + length, back(z, 0, checked(java.util.Arrays.copyOf(good, length))), -1);
        }
        due("one byte more", back(z, 0, checked(java.util.Arrays.copyOf(good, good.length + 1))), -1);
        int[] more = good.clone();
        more[12] = 3;
        due("more KEYS told than come", back(z, 0, checked(more)), -1);
        more[12] = 1;
        due("fewer KEYS told than come", back(z, 0, checked(more)), -1);
        more[12] = 255;
        due("255 KEYS told", back(z, 0, checked(more)), -1);
        int[] off = good.clone();
        off[off.length - 1] = (off[off.length - 1] + 1) % 256;
        due("c is another", back(z, 0, off), -1);
        // 253 more is the same rest, but not the byte c.
        for (int n = 0; n < 400; n++) {
            int[] small = imageOf(8, 100, 0, n);
            if (small[13] < 3) {
                small[13] += 253;
                due("c of 253 more", back(z, 0, small), -1);
                break;
            }
        }
        so("all else stays", stateOf(z, 0).equals(before));
        due("the tape goes", z.count(2), 0);
        due("none is made", back(z, 3, off), -1);
        due("TABLES", z.count(0), 2);

        says("-2: no such t.");
        ClashFree w = new ClashFree();
        Checks.feed(w, good);
        for (int t : NO_TABLES) {
            due("no such t", w.back(t), -2);
        }
        due("the tape stays", w.count(2), good.length);
        due("it comes later", w.back(0), 2);
    }

    private static void copy() {
        section("Promise 37");
        says("A TABLE becomes just as another one: 1;");
        ClashFree x = two();
        x.get(0, 10);
        x.put(0, 60, 6);
        x.drop(0, 20);
        x.build(0);
        due("in place of one", x.copy(1, 0), 1);
        so("just as", stateOf(x, 1).equals(stateOf(x, 0)));
        due("where there was none", x.copy(3, 0), 1);
        so("just as", stateOf(x, 3).equals(stateOf(x, 0)));
        due("TABLES", x.count(0), 3);
        x.put(0, 70, 7);
        due("they are apart", x.get(3, 70), NOTHING);
        x.drop(3, 10);
        due("they are apart", x.get(0, 10), 1);
        due("they go on alike", x.put(1, 70, 7) > 0 ? 1 : 0, 1);
        due("by the same draws", x.has(1, 13), x.has(0, 13));
        ClashFree y = full();
        y.make(1, 8, 25, 0, 1);
        due("one without KEYS over 160", y.copy(0, 1), 1);
        so("just as", stateOf(y, 0).equals(stateOf(y, 1)));
        due("no KEYS", y.count(1), 0);
        for (int key = 0; key < 60; key++) {
            due("they go on alike", y.put(0, key * key, key), y.put(1, key * key, key));
        }
        so("they went on alike", stateOf(y, 0).equals(stateOf(y, 1)));
        ClashFree z = made(64, 100, 0, 5);
        z.make(1, 8, 100, 0, 6);
        for (int key = 2; key < 30; key++) {
            z.put(1, key, 1000 - key);
        }
        z.copy(0, 1);
        allLie(z);

        says("-2 (itself, too).");
        List<Long> before = stateOf(x, 0);
        due("itself", x.copy(0, 0), -2);
        due("of none", x.copy(0, 2), -2);
        due("none of itself", x.copy(2, 2), -2);
        for (int t : NO_TABLES) {
            due("no such", x.copy(t, 0), -2);
            due("of no such", x.copy(0, t), -2);
            due("of no such", x.copy(2, t), -2);
        }
        so("all stays", stateOf(x, 0).equals(before));
        due("TABLES", x.count(0), 3);
    }

    private static void count() {
        section("Promise 38");
        says("0 how many TABLES there are, 1 KEYS of all, 2 bytes of the tape.");
        ClashFree x = new ClashFree();
        for (int what = 0; what <= 2; what++) {
            due("at first", x.count(what), 0);
        }
        for (int t = 0; t < 4; t++) {
            x.make(3 - t, 8, 25, 0, 1);
            due("TABLES", x.count(0), t + 1);
        }
        x.make(0, 8, 25, 0, 1);
        due("one in place of another", x.count(0), 4);
        x.put(0, 5, 5);
        x.put(3, 5, 5);
        due("like KEYS of two", x.count(1), 2);
        ClashFree y = full();
        for (int t = 1; t < 4; t++) {
            y.copy(t, 0);
        }
        due("all that there may be", y.count(1), 640);
        x.feed(1, 2, 3, 4, 5);
        due("bytes", x.count(2), 20);
        x.end(7);
        due("bytes", x.count(2), 7);

        says("NONE for others.");
        for (int what : new int[] {-1, 3, Integer.MIN_VALUE, Integer.MAX_VALUE}) {
            due("others", x.count(what), -1);
        }
    }
}
