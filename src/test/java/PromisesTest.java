/**
 * Each promise of the document: ordinary inputs, the edges that it names, wrong inputs. The numbers that come of
 * draws were worked out apart from this program.
 */
public final class PromisesTest extends Checks {
    public static void main(String[] args) {
        newObject();
        tape();
        make();
        draws();
        put();
        putBySum();
        putAtMost();
        getAndReads();
        drop();
        build();
        has();
        bucketsAndRooms();
        places();
        keysByNumbers();
        walk();
        nearest();
        howWell();
        left();
        outer();
        best();
        innerAndTries();
        would();
        frozen();
        shared();
        join();
        cut();
        values();
        run();
        sums();
        steps();
        faults();
        faultsOfDepth();
        faultsOfSeveral();
        ran();
        image();
        back();
        copy();
        count();
        finish();
    }

    private static void newObject() {
        ClashFree x = new ClashFree();
        due("new: tables", x.count(0), 0);
        due("new: keys", x.count(1), 0);
        due("new: tape", x.count(2), 0);
        for (int t = -1; t < 5; t++) {
            due("new: has", x.has(t, 0), NOTHING);
            due("new: put", x.put(t, 1, 1), -2);
            due("new: left", x.left(t), -1);
        }
        due("new: octet", x.octet(0), -1);
        due("new: ran 0", x.ran(0), 0);
        due("new: ran 1", x.ran(1), -1);
        due("new: ran 3", x.ran(3), 0);
        due("new: ran 5", x.ran(5), 0);
    }

    private static void tape() {
        ClashFree x = new ClashFree();
        for (int n = 1; n <= 70; n++) {
            due("feed", x.feed(n, 0, 0, 0, 0), 20 * n);
        }
        due("feed of more than 1400", x.feed(1, 2, 3, 4, 5), -1);
        due("none came", x.count(2), 1400);
        due("end behind all", x.end(1401) ? 1 : 0, 0);
        due("end below 0", x.end(-1) ? 1 : 0, 0);
        due("end at all", x.end(1400) ? 1 : 0, 1);
        due("end", x.end(1381) ? 1 : 0, 1);
        due("feed, one too many", x.feed(1, 2, 3, 4, 5), -1);
        due("end", x.end(1380) ? 1 : 0, 1);
        due("feed, just so many", x.feed(1, 2, 3, 4, 5), 1400);
        due("end at none", x.end(0) ? 1 : 0, 1);
        due("end of none", x.end(1) ? 1 : 0, 0);
        due("tape", x.count(2), 0);
        x.make(0, 8, 25, 0, 1);
        // "let ", "5+0x", "0;;;": the highest byte first, and only those ahead of the end.
        x.feed(0x6c657420, 0x352b3132, 0x3b3b3b3b, 0, 0);
        x.end(9);
        due("run of the tape", x.run(0), 1);
        due("x of the tape", x.ran(4), 17);
    }

    private static void make() {
        ClashFree x = new ClashFree();
        int[][] cannot = {{-1, 8, 25, 0}, {4, 8, 25, 0}, {0, 7, 25, 0}, {0, 65, 25, 0}, {0, 8, 24, 0}, {0, 8, 401, 0},
            {0, 8, 25, -1}, {0, 8, 25, 201}};
        for (int[] one : cannot) {
            due("make of what can't be", x.make(one[0], one[1], one[2], one[3], 1), -2);
        }
        due("none was made", x.count(0), 0);
        due("make least", x.make(0, 8, 25, 0, Long.MIN_VALUE), 1);
        due("make most", x.make(3, 64, 400, 200, Long.MAX_VALUE), 1);
        due("buckets, least", x.has(0, 3), 1);
        due("buckets, most", x.has(3, 3), 16);
        due("bound times limit", x.has(3, 5), 256);
        x.put(3, 5, 5);
        x.get(3, 5);
        due("make in place", x.make(3, 10, 130, 7, 5), 1);
        long[] all = {0, 4, 0, 5, 0, 40, 1724882993, 301167773, 0, 1, 0, 0, 0, 2587011477941047999L, 10, 130, 7};
        for (int what = 0; what < all.length; what++) {
            due("made anew: has " + what, x.has(3, what), all[what]);
        }
        due("made anew: get", x.get(3, 5), NOTHING);
        due("make refused", x.make(3, 10, 130, 201, 5), -2);
        due("make refused leaves it", x.has(3, 16), 7);
        due("make with s below 0", x.make(1, 8, 100, 0, -1), 1);
        due("s below 0: a", x.has(1, 6), 1574552489);
        due("s below 0: b", x.has(1, 7), 1490332343);
        due("s below 0: s", x.has(1, 13), -5644886720501858487L);
    }

    /** Numbers s by which a draw comes out at the very ends of what 31 bits can be. */
    private static void draws() {
        long[][] all = {{3304166281475345618L, 1, 1960553886}, {-7847782917531415342L, 2, 1097936075},
            {-3990628593227445038L, TOP, 675688049}, {1427645566418854767L, 384655582, TOP},
            {6922024682175505263L, 1233881475, 0}, {-4066733549337795729L, 1682913337, 2147483645}};
        for (long[] one : all) {
            ClashFree x = made(8, 100, 0, one[0]);
            due("a of a draw at the ends", x.has(0, 6), one[1]);
            due("b of a draw at the ends", x.has(0, 7), one[2]);
        }
    }

    private static void put() {
        ClashFree x = made(8, 100, 0, 5);
        due("put no key", x.put(0, -1, 0), -2);
        due("put no key", x.put(0, P, 0), -2);
        due("put no table", x.put(1, 0, 0), -2);
        due("put no table", x.put(-1, 0, 0), -2);
        due("put 7", x.put(0, 7, 70), 3);
        // By (1724882993, 301167773) among 4 the KEYS 7, 0, 9 are in BUCKET 1, by (1762018235, 664543405) in ROOMS 0, 1, 3 of 4.
        due("put 0 into its room", x.put(0, 0, 5), 1);
        due("sum", x.has(0, 4), 4);
        due("no pair was drawn", x.has(0, 9), 2);
        due("none was laid as it was built", x.has(0, 12), 1);
        due("put 9, roof twice", x.put(0, 9, 5), 3);
        due("roof", x.bucket(0, 1, 1), 4);
        due("keys", x.bucket(0, 1, 0), 3);
        due("sum", x.has(0, 4), 16);
        due("laid", x.has(0, 12), 4);
        due("put again", x.put(0, 9, -6), 0);
        due("its value", x.get(0, 9), -6);
        due("count", x.has(0, 2), 3);
        due("put 4", x.put(0, TOP, 1), 3);
        due("count at limit", x.has(0, 2), 4);
        due("put again at limit", x.put(0, 7, 71), 0);
        due("put above limit", x.put(0, 1, 1), 4);
        due("limit", x.has(0, 1), 9);
        due("count", x.has(0, 2), 5);
        due("built", x.has(0, 11), 1);
        due("laid", x.has(0, 12), 10);
        for (int key : new int[] {7, 0, 9, TOP, 1}) {
            due("still there", x.place(0, key, 0) >= 0 && x.get(0, key) != NOTHING ? 1 : 0, 1);
        }

        ClashFree y = made(8, 25, 0, 1);
        due("one bucket: put", y.put(0, 10, 1), 3);
        due("one bucket: put", y.put(0, 20, 1) > 0 ? 1 : 0, 1);
        due("roof", y.bucket(0, 0, 1), 2);
        due("roof is twice as much", y.put(0, 30, 1), 3);
        due("sum", y.has(0, 4), 16);
        y.put(0, 40, 1);
        y.drop(0, 40);
        y.drop(0, 30);
        due("built for count", y.has(0, 11), 1);
    }

    /** Puts the next KEY that is not there into a BUCKET of TABLE 0. */
    private static int putInto(ClashFree x, int j) {
        int key = 3;
        while (x.place(0, key, 0) != j || x.would(0, key) == 0) {
            key++;
        }
        return x.put(0, key, 0);
    }

    private static void putBySum() {
        ClashFree x = new ClashFree();
        back(x, 0, imageOf(8, 25, 200, 4, 1, 0, 2, 0));
        due("limit", x.has(0, 1), 10);
        due("buckets", x.has(0, 3), 2);
        while (x.bucket(0, 0, 0) < 5) {
            putInto(x, 0);
        }
        while (x.bucket(0, 1, 0) < 3) {
            putInto(x, 1);
        }
        due("roof of five", x.bucket(0, 0, 1), 8);
        due("sum just as the bound", x.has(0, 4), 80);
        due("count", x.has(0, 2), 8);
        due("a fourth below its roof", putInto(x, 1) < 3 ? 1 : 0, 1);
        due("not all was built", x.has(0, 11), 0);
        due("a fifth: more than the bound", putInto(x, 1), 4);
        due("all was built", x.has(0, 11), 1);
        due("limit", x.has(0, 1), 34);
        due("count", x.has(0, 2), 10);
        due("sum", x.has(0, 4) <= x.has(0, 5) ? 1 : 0, 1);
    }

    private static void putAtMost() {
        ClashFree x = full();
        long reads = x.has(0, 8);
        long count = x.has(0, 2);
        due("put of a 161st", x.put(0, 1000, 1), -3);
        due("would of a 161st", x.would(0, 1000), -3);
        due("no reads", x.has(0, 8), reads);
        due("no count", x.has(0, 2), count);
        due("no key at 160", x.put(0, -1, 1), -2);
        due("put of one that is there", x.put(0, 100, 77), 0);
        due("would of one that is there", x.would(0, 100), 0);
        due("its value", x.get(0, 100), 77);
        due("refused in a program", run(x, 0, "put 1000 as 1;put 100 as 78;"), 2);
        due("refused", x.ran(3), 1);
        due("its value", x.get(0, 100), 78);
        due("drop", x.drop(0, 100) > 0 ? 1 : 0, 1);
        due("put of a 160th", x.put(0, 1000, 1) > 0 ? 1 : 0, 1);
    }

    private static void getAndReads() {
        ClashFree x = made(8, 100, 0, 5);
        due("get no table", x.get(1, 7), NOTHING);
        due("get no key", x.get(0, -1), NOTHING);
        due("get no key", x.get(0, P), NOTHING);
        due("no reads of what is no key", x.has(0, 8), 0);
        due("get", x.get(0, 7), NOTHING);
        due("a read of a bucket without rooms", x.has(0, 8), 1);
        x.put(0, 7, Integer.MIN_VALUE);
        due("reads ahead of its rooms", x.has(0, 8), 2);
        due("get", x.get(0, 7), Integer.MIN_VALUE);
        due("two reads", x.has(0, 8), 4);
        due("drop of none, without rooms", x.drop(0, 1), -1);
        due("one read", x.has(0, 8), 5);
        due("drop of none, with rooms", x.drop(0, 9), -1);
        due("two reads", x.has(0, 8), 7);
        due("drop", x.drop(0, 7), 1);
        due("two reads", x.has(0, 8), 9);
        due("get of one dropped", x.get(0, 7), NOTHING);
        due("its rooms are still there", x.has(0, 8), 11);
        due("would", x.would(0, 7), 1);
        due("place", x.place(0, 7, 1), 0);
        due("room", x.room(0, 1, 0), -1);
        due("no reads of them", x.has(0, 8), 11);
        due("a program", run(x, 0, "get 7;put 7 as 7;drop 7;get 0-1;drop 0-1;put 0-1 as 1;"), 6);
        due("its reads", x.has(0, 8), 17);
    }

    private static void drop() {
        ClashFree x = made(8, 100, 0, 5);
        due("drop no table", x.drop(2, 7), -2);
        due("drop no key", x.drop(0, -1), -2);
        due("drop no key", x.drop(0, P), -2);
        due("drop of none", x.drop(0, 7), -1);
        due("count of none", x.has(0, 2), 0);
        x.put(0, 7, 1);
        x.put(0, 9, 1);
        due("drop", x.drop(0, 7), 1);
        due("count", x.has(0, 2), 3);
        due("keys", x.has(0, 0), 1);
        due("bucket", x.bucket(0, 1, 0), 1);
        due("roof stays", x.bucket(0, 1, 1), 2);
        due("put", x.put(0, 7, 1), 1);
        due("count at limit", x.has(0, 2), 4);
        due("drop above limit", x.drop(0, 9), 2);
        due("count", x.has(0, 2), 1);
        due("limit", x.has(0, 1), 5);
        due("built", x.has(0, 11), 1);
        due("get", x.get(0, 7), 1);
        due("get of the dropped", x.get(0, 9), NOTHING);
    }

    private static void build() {
        ClashFree x = made(8, 100, 0, 5);
        due("build no table", x.build(1), -2);
        due("build no table", x.build(4), -2);
        due("build of none", x.build(0), 1);
        due("counted", x.has(0, 11), 1);
        due("pairs", x.has(0, 9), 2);
        ClashFree y = sixty();
        due("sixty: pairs", y.has(0, 9), 80);
        y.drop(0, 0);
        y.put(0, 0, 0);
        due("count", y.has(0, 2), 62);
        int pairs = y.build(0);
        due("sixty: pairs of it", y.has(0, 9), 80 + pairs);
        due("sixty: built", y.has(0, 11), 1);
        due("sixty: laid", y.has(0, 12), 120);
        due("sixty: count", y.has(0, 2), 60);
    }

    private static void has() {
        ClashFree x = sixty();
        long[] all = {60, 64, 60, 64, 512, 512, 166935373, 361851627, 0, 80, 0, 0, 60, -1136351924253780370L, 8, 25, 0};
        for (int what = 0; what < all.length; what++) {
            due("sixty: has " + what, x.has(0, what), all[what]);
        }
        due("has -1", x.has(0, -1), NOTHING);
        due("has 17", x.has(0, 17), NOTHING);
        due("has no table", x.has(1, 0), NOTHING);
        ClashFree y = new ClashFree();
        int[] keys = new int[60];
        for (int i = 0; i < 60; i++) {
            keys[i] = i % 2 == 0 ? 5 * i : 0;
        }
        back(y, 2, imageOf(8, 25, 50, 77, keys));
        long[] others = {30, 49, 30, 12, 320, 392, 1381365392, 1063578469, 0, 13, 0, 0, 30, 4635062816265770719L, 8, 25, 50};
        for (int what = 0; what < others.length; what++) {
            due("thirty: has " + what, y.has(2, what), others[what]);
        }
    }

    private static void bucketsAndRooms() {
        ClashFree x = sixty();
        due("bucket keys", x.bucket(0, 53, 0), 4);
        due("bucket roof", x.bucket(0, 53, 1), 8);
        due("bucket a", x.bucket(0, 2, 2), 1095765941);
        due("bucket b", x.bucket(0, 2, 3), 823155872);
        due("bucket without rooms: keys", x.bucket(0, 0, 0), 0);
        due("bucket without rooms: roof", x.bucket(0, 0, 1), 0);
        due("bucket without rooms: a", x.bucket(0, 0, 2), -1);
        due("bucket without rooms: b", x.bucket(0, 0, 3), -1);
        due("bucket -1", x.bucket(0, -1, 0), NOTHING);
        due("bucket 64", x.bucket(0, 64, 0), NOTHING);
        due("bucket what", x.bucket(0, 0, 4), NOTHING);
        due("bucket what", x.bucket(0, 0, -1), NOTHING);
        due("bucket no table", x.bucket(1, 0, 0), NOTHING);
        due("room", x.room(0, 2, 5), 7920);
        due("room", x.room(0, 61, 58), 1552138);
        due("room that is empty", x.room(0, 2, 4), -1);
        due("room -1", x.room(0, 2, -1), -2);
        due("room behind the last", x.room(0, 2, (int) (x.bucket(0, 2, 1) * x.bucket(0, 2, 1))), -2);
        due("room without rooms", x.room(0, 0, 0), -2);
        due("room no bucket", x.room(0, 64, 0), -2);
        due("room no table", x.room(3, 0, 0), -2);
        due("room no table", x.room(-1, 0, 0), -2);
    }

    private static void places() {
        ClashFree x = sixty();
        due("place", x.place(0, 7920, 0), 2);
        due("place", x.place(0, 7920, 1), 5);
        due("place of the last", x.place(0, 1552138, 0), 61);
        due("place of the last", x.place(0, 1552138, 1), 58);
        due("place what", x.place(0, 7920, 2), -2);
        due("place what", x.place(0, 7920, -1), -2);
        due("place no key", x.place(0, -1, 0), -2);
        due("place no key", x.place(0, P, 0), -2);
        due("place no table", x.place(1, 7920, 0), -2);
        ClashFree y = made(8, 100, 0, 5);
        due("place of one that is not there", y.place(0, TOP, 0), 3);
        due("place without rooms", y.place(0, TOP, 1), -1);
        y.put(0, 7, 1);
        due("room of one that is not there", y.place(0, 9, 1), 3);
        due("no reads", y.has(0, 8), 1);
    }

    private static void keysByNumbers() {
        ClashFree x = sixty();
        due("key 0", x.key(0, 0), 0);
        due("key 1", x.key(0, 1), 7920);
        due("key 59", x.key(0, 59), 59 * 59 * 7919 + 59);
        due("key 60", x.key(0, 60), -1);
        due("key -1", x.key(0, -1), -1);
        due("key no table", x.key(1, 0), -1);
        x.put(0, 5, 5);
        due("key put between", x.key(0, 1), 5);
        x.drop(0, 0);
        due("key 0 dropped", x.key(0, 0), 5);
        due("below", x.below(0, 5), 0);
        due("below", x.below(0, 6), 1);
        due("below all", x.below(0, P), 60);
        due("below 0", x.below(0, 0), 0);
        due("below -1", x.below(0, -1), -1);
        due("below no table", x.below(2, 5), -1);
        x.put(0, TOP, 1);
        due("below the greatest", x.below(0, TOP), 60);
        due("below more", x.below(0, P), 61);
    }

    private static void walk() {
        ClashFree x = sixty();
        int[] first = {7920, 13969158, 23091858, 6208524, 16756650};
        for (int k = 0; k < first.length; k++) {
            due("walk " + k, x.walk(0, k), first[k]);
        }
        due("walk 59", x.walk(0, 59), 1552138);
        due("walk 60", x.walk(0, 60), -1);
        due("walk -1", x.walk(0, -1), -1);
        due("walk no table", x.walk(1, 0), -1);
    }

    private static void nearest() {
        ClashFree x = made(8, 100, 0, 5);
        due("nearest without keys", x.nearest(0, 5), -1);
        x.put(0, 10, 1);
        x.put(0, 20, 1);
        x.put(0, TOP, 1);
        due("nearest itself", x.nearest(0, 20), 20);
        due("nearest of like ones", x.nearest(0, 15), 10);
        due("nearest above", x.nearest(0, 16), 20);
        due("nearest of 0", x.nearest(0, 0), 10);
        due("nearest of the greatest", x.nearest(0, TOP), TOP);
        due("nearest below it", x.nearest(0, 2000000000), TOP);
        due("nearest -1", x.nearest(0, -1), -1);
        due("nearest P", x.nearest(0, P), -1);
        due("nearest no table", x.nearest(1, 5), -1);
    }

    private static void howWell() {
        ClashFree x = sixty();
        due("many 0", x.many(0, 0), 28);
        due("many 1", x.many(0, 1), 20);
        due("many 2", x.many(0, 2), 10);
        due("many 3", x.many(0, 3), 4);
        due("many 4", x.many(0, 4), 2);
        due("many 5", x.many(0, 5), 0);
        due("many most", x.many(0, P), 0);
        due("many -1", x.many(0, -1), -1);
        due("many no table", x.many(1, 0), -1);
        due("crowd 0", x.crowd(0, 0), 53);
        due("crowd 1", x.crowd(0, 1), 4);
        due("crowd 2", x.crowd(0, 2), 40);
        due("crowd 3", x.crowd(0, 3), 34);
        due("crowd 4", x.crowd(0, 4), -1);
        due("crowd -1", x.crowd(0, -1), -1);
        due("crowd no table", x.crowd(1, 0), -1);
        due("empty", x.empty(0), 512 - 60);
        x.drop(0, 0);
        due("empty of one more", x.empty(0), 512 - 59);
        due("empty no table", x.empty(1), -1);
        ClashFree y = made(8, 100, 0, 5);
        due("crowd of none", y.crowd(0, 0), 0);
        due("crowd of none", y.crowd(0, 1), 0);
        due("crowd of none", y.crowd(0, 2), 0);
        due("empty of none", y.empty(0), 0);
        // BUCKETS of 7, 1, 2, 8 are 1, 2, 0, 3: of like ones the first.
        y.put(0, 8, 1);
        due("crowd of one", y.crowd(0, 0), 3);
        y.put(0, 7, 1);
        due("crowd of like ones", y.crowd(0, 0), 1);
    }

    private static void left() {
        ClashFree x = made(8, 100, 0, 5);
        due("left no table", x.left(1), -1);
        for (int n = 0; n < 4; n++) {
            due("left", x.left(0), 5 - n);
            due("a put", x.put(0, n, n) > 0 ? 1 : 0, 1);
            x.put(0, n, n + 1);
        }
        due("left", x.left(0), 1);
        due("a drop", x.drop(0, 0), 2);
        due("left anew", x.left(0), 5);
        x.drop(0, 77);
        due("a drop of none", x.left(0), 5);
    }

    private static void outer() {
        ClashFree x = made(8, 100, 0, 5);
        due("outer of none", x.outer(0, 1, 0, 5, 0), 0);
        due("outer of none", x.outer(0, 1, 0, 5, 3), 5);
        for (int key : new int[] {1, 4, 7, 8, 12}) {
            x.put(0, key, 1);
        }
        due("outer sum", x.outer(0, 1, 0, 3, 0), 4 * (9 + 1 + 1));
        due("outer sum of roofs as keys", x.outer(0, 1, 0, 3, 1), 11);
        due("outer most", x.outer(0, 1, 0, 3, 2), 3);
        due("outer empty", x.outer(0, 1, 0, 4, 3), 1);
        due("outer b", x.outer(0, 1, TOP, 4, 3), 1);
        due("outer one", x.outer(0, TOP, TOP, 1, 0), 100);
        due("outer most buckets", x.outer(0, 1, 0, 2048, 3), 2043);
        due("outer again", x.outer(0, 1, 0, 3, 2), 3);
        int[][] cannot = {{1, 1, 0, 3, 0}, {0, 0, 0, 3, 0}, {0, P, 0, 3, 0}, {0, 1, -1, 3, 0}, {0, 1, P, 3, 0}, {0, 1, 0, 0, 0},
            {0, 1, 0, 2049, 0}, {0, 1, 0, 3, -1}, {0, 1, 0, 3, 4}, {-1, 1, 0, 3, 0}};
        for (int[] one : cannot) {
            due("outer of what can't be", x.outer(one[0], one[1], one[2], one[3], one[4]), NOTHING);
        }
    }

    private static void best() {
        ClashFree x = made(8, 100, 0, 5);
        due("best of none", x.best(0, 200, 9, 2), 200);
        int[] all = new int[60];
        for (int i = 0; i < 60; i++) {
            all[i] = i % 2 == 0 ? 5 * i : 0;
        }
        // SPREAD 98 of LIMIT 49 are 48 BUCKETS.
        back(x, 0, imageOf(8, 98, 50, 77, all));
        due("best which", x.best(0, 50, 3, 0), 2);
        due("best sum", x.best(0, 50, 3, 1), 120);
        due("best how many", x.best(0, 50, 3, 2), 49);
        due("best what", x.best(0, 50, 3, 3), NOTHING);
        due("best what", x.best(0, 50, 3, -1), NOTHING);
        due("best n", x.best(0, 0, 3, 0), NOTHING);
        due("best n", x.best(0, 201, 3, 0), NOTHING);
        due("best no table", x.best(1, 5, 3, 0), NOTHING);
        due("nothing is drawn for it", x.has(0, 9) < 50 ? 1 : 0, 1);
    }

    private static void innerAndTries() {
        ClashFree x = made(8, 25, 0, 1);
        due("inner without rooms", x.inner(0, 0, 1, 0), -1);
        due("tries without rooms", x.tries(0, 0, 1, 1, 0), -2);
        x.put(0, 1, 1);
        x.put(0, 5, 1);
        due("roof", x.bucket(0, 0, 1), 2);
        due("inner clash", x.inner(0, 0, 1, 0), 1);
        due("inner", x.inner(0, 0, TOP, 0), 1);
        x.put(0, 6, 1);
        due("roof", x.bucket(0, 0, 1), 4);
        due("inner none", x.inner(0, 0, 1, TOP), 0);
        due("inner a", x.inner(0, 0, 0, 0), -1);
        due("inner a", x.inner(0, 0, P, 0), -1);
        due("inner b", x.inner(0, 0, 1, -1), -1);
        due("inner b", x.inner(0, 0, 1, P), -1);
        due("inner bucket", x.inner(0, 1, 1, 0), -1);
        due("inner bucket", x.inner(0, -1, 1, 0), -1);
        due("inner table", x.inner(1, 0, 1, 0), -1);
        due("tries n", x.tries(0, 0, 0, 1, 0), -2);
        due("tries n", x.tries(0, 0, 201, 1, 0), -2);
        due("tries what", x.tries(0, 0, 5, 1, 2), -2);
        due("tries what", x.tries(0, 0, 5, 1, -1), -2);
        due("tries bucket", x.tries(0, 1, 5, 1, 0), -2);
        due("tries table", x.tries(1, 0, 5, 1, 0), -2);
        // 1, 17, 33, 49 are of one rest by 16, so a of 1 has all of them in one ROOM.
        ClashFree y = made(64, 25, 0, 1);
        for (int key = 1; key < 65; key += 16) {
            y.put(0, key, 1);
        }
        due("roof of four", y.bucket(0, 0, 1), 4);
        due("twos of four", y.inner(0, 0, 1, 0), 6);
        for (int s = 0; s < 40; s++) {
            int first = y.tries(0, 0, 200, s, 0);
            int good = y.tries(0, 0, 200, s, 1);
            due("first is among them", first >= 0 && y.tries(0, 0, first + 1, s, 1) == 1 ? 1 : 0, 1);
            due("none is ahead of it", first == 0 ? -1 : y.tries(0, 0, first, s, 0), -1);
            due("not all, not none", good > 50 && good < 200 ? 1 : 0, 1);
        }
        y.drop(0, 1);
        y.make(0, 8, 100, 0, 5);
        y.put(0, 7, 1);
        y.drop(0, 7);
        due("rooms without keys: inner", y.inner(0, 1, 1, 0), 0);
        due("rooms without keys: tries", y.tries(0, 1, 200, 1, 1), 200);
    }

    private static void would() {
        ClashFree x = made(8, 100, 0, 5);
        due("would no table", x.would(1, 5), -2);
        due("would no key", x.would(0, -1), -2);
        due("would no key", x.would(0, P), -2);
        int[] seen = new int[5];
        for (int n = 0; n < 300; n++) {
            int key = n * n * 31 % 1009;
            long before = x.has(0, 13);
            int told = x.would(0, key);
            due("would leaves s", x.has(0, 13), before);
            due("would is what put tells", x.put(0, key, n), told);
            seen[Math.max(0, told)]++;
            if (n % 3 > 0) {
                x.drop(0, n * 5 % 1009);
            }
        }
        for (int told = 0; told < 5; told++) {
            due("put told " + told, seen[told] > 0 ? 1 : 0, 1);
        }
    }

    private static void frozen() {
        ClashFree x = made(8, 100, 0, 5);
        due("frozen of none: last", x.frozen(0, 5, 4), -1);
        due("frozen of none: rooms", x.frozen(0, 5, 0), 0);
        due("frozen of none: at", x.frozenAt(0, 5, 0), -1);
        int[] all = new int[60];
        for (int i = 0; i < 60; i++) {
            all[i] = i % 2 == 0 ? 5 * i : 0;
        }
        back(x, 0, imageOf(8, 25, 50, 77, all));
        due("frozen rooms", x.frozen(0, 9, 0), 40);
        due("frozen outer pairs", x.frozen(0, 9, 1), 1);
        due("frozen pairs", x.frozen(0, 9, 2), 25);
        due("frozen least", x.frozen(0, 9, 3), 0);
        due("frozen last", x.frozen(0, 9, 4), 39);
        due("frozen what", x.frozen(0, 9, 5), NOTHING);
        due("frozen what", x.frozen(0, 9, -1), NOTHING);
        due("frozen no table", x.frozen(1, 9, 0), NOTHING);
        due("frozen at", x.frozenAt(0, 9, 180), 0);
        due("frozen at", x.frozenAt(0, 9, 0), 31);
        due("frozen at", x.frozenAt(0, 9, 270), 4);
        due("frozen at", x.frozenAt(0, 9, 250), 39);
        due("frozen at of none", x.frozenAt(0, 9, 5), -1);
        due("frozen at of no key", x.frozenAt(0, 9, -1), -1);
        due("frozen at no table", x.frozenAt(4, 9, 0), -1);
        due("nothing is changed", x.has(0, 13), 4635062816265770719L);
        due("nothing is counted", x.has(0, 9), 13);
    }

    private static ClashFree two() {
        ClashFree x = new ClashFree();
        back(x, 0, imageOf(8, 100, 0, 1, 10, 1, 20, 2, 30, 3, 40, 4));
        back(x, 1, imageOf(8, 100, 0, 2, 20, 2, 30, 9, 50, 5));
        return x;
    }

    private static void shared() {
        ClashFree x = two();
        due("shared both", x.shared(0, 1, 0), 2);
        due("shared one or both", x.shared(0, 1, 1), 5);
        due("shared the first alone", x.shared(0, 1, 2), 2);
        due("shared the other alone", x.shared(1, 0, 2), 1);
        due("shared like values", x.shared(0, 1, 3), 1);
        due("shared with itself", x.shared(0, 0, 1), 4);
        due("shared with itself", x.shared(0, 0, 2), 0);
        due("shared what", x.shared(0, 1, 4), -1);
        due("shared what", x.shared(0, 1, -1), -1);
        due("shared none", x.shared(0, 2, 0), -1);
        due("shared none", x.shared(2, 0, 0), -1);
        due("shared none", x.shared(0, 4, 0), -1);
    }

    private static void join() {
        ClashFree x = two();
        due("join itself", x.join(0, 0), -2);
        due("join none", x.join(0, 2), -2);
        due("join none", x.join(2, 0), -2);
        due("join none", x.join(-1, 0), -2);
        due("join", x.join(0, 1), 1);
        due("join: keys", x.has(0, 0), 5);
        due("join: the other's value", x.get(0, 30), 9);
        due("join: the other stays", x.has(1, 0), 3);
        due("join: reads", x.has(0, 8), 2);
        due("join: count", x.has(0, 2), 5);
        ClashFree y = full();
        back(y, 1, imageOf(8, 100, 0, 2, 5, 50, 159, 60, 200, 70, 201, 80));
        y.drop(0, 7);
        due("join till 160", y.join(0, 1), 1);
        due("there before", y.get(0, 5), 50);
        due("there before", y.get(0, 159), 60);
        due("the one that came", y.get(0, 200), 70);
        due("the one that did not", y.get(0, 201), NOTHING);
        back(y, 1, imageOf(8, 100, 0, 2, 5, 51, 300, 60, 400, 70));
        back(y, 2, imageOf(8, 100, 0, 2, 5, 52, 159, 61));
        due("join at 160", y.join(0, 1), 0);
        due("there before", y.get(0, 5), 51);
        due("join at 160 of those there", y.join(0, 2), 0);
        due("there before", y.get(0, 159), 61);
    }

    private static void cut() {
        ClashFree x = two();
        due("cut itself", x.cut(0, 0, true), -2);
        due("cut none", x.cut(0, 3, true), -2);
        due("cut none", x.cut(3, 0, false), -2);
        due("cut what it has", x.cut(0, 1, true), 2);
        due("cut: left", x.key(0, 0), 10);
        due("cut: left", x.key(0, 1), 40);
        due("cut: left", x.has(0, 0), 2);
        due("cut: count", x.has(0, 2), 6);
        due("cut: reads", x.has(0, 8), 0);
        ClashFree y = two();
        due("cut what it has not", y.cut(0, 1, false), 2);
        due("cut: left", y.key(0, 0), 20);
        due("cut: left", y.key(0, 1), 30);
        ClashFree z = full();
        z.make(1, 8, 25, 0, 1);
        due("cut all", z.cut(0, 1, false), 160);
        due("none is left", z.has(0, 0), 0);
    }

    private static void values() {
        ClashFree x = new ClashFree();
        due("values no table", x.values(0, 2), NOTHING);
        back(x, 0, imageOf(8, 100, 0, 1, 10, -5, 20, 7, 30, 7, 40, Integer.MIN_VALUE));
        due("values greatest", x.values(0, 0), 20);
        due("values greatest", x.values(0, 1), 7);
        due("values sum", x.values(0, 2), 9L + Integer.MIN_VALUE);
        due("values what", x.values(0, 3), NOTHING);
        due("values what", x.values(0, -1), NOTHING);
        back(x, 1, imageOf(8, 100, 0, 1, 10, Integer.MAX_VALUE, 20, Integer.MAX_VALUE));
        due("values wide sum", x.values(1, 2), 4294967294L);
        back(x, 2, imageOf(8, 100, 0, 1, 3, Integer.MIN_VALUE));
        due("values of the least", x.values(2, 0), 3);
        due("values of the least", x.values(2, 1), Integer.MIN_VALUE);
        x.make(3, 8, 25, 0, 1);
        due("values of none", x.values(3, 0), -1);
        due("values of none", x.values(3, 1), NOTHING);
        due("values of none", x.values(3, 2), 0);
    }

    private static void run() {
        ClashFree x = new ClashFree();
        feed(x, bytesOf("let 5;"));
        due("run no table", x.run(0), -2);
        due("run no table", x.run(4), -2);
        due("the tape stays", x.count(2), 6);
        x.make(0, 8, 25, 0, 1);
        due("run", x.run(0), 1);
        due("the tape goes", x.count(2), 0);
        due("run of nothing", x.run(0), 0);
        due("x of nothing", x.ran(4), 0);
        due("run of blanks", run(x, 0, " \n \n"), 0);
        due("fault of blanks", x.ran(0), 0);
        due("run put", run(x, 0, "put 3 as 4;put 5 as 0-6;\nget 3 ;"), 3);
        due("x", x.ran(4), 4);
        due("put", x.get(0, 5), -6);
        due("run drop", run(x, 0, "drop 3;get 3;"), 2);
        due("x of none", x.ran(4), -1);
        due("refused: get of none is not", x.ran(3), 0);
        due("dropped", x.get(0, 3), NOTHING);
        due("run for", run(x, 0, "for 3[for 2[put i as 7;];put i+10 as i;];put 99 as i;"), 19);
        due("put of the inner i", x.below(0, 10), 3);
        due("put of the outer i", x.get(0, 12), 2);
        due("i outside", x.get(0, 99), 0);
        due("five nested", run(x, 0, "for 2[for 2[for 2[for 2[for 2[let i;];];];];];let x*10+i;"), 95);
        due("x of five nested", x.ran(4), 10);
        due("for 0", run(x, 0, "for 0[let 5;];"), 0);
        due("for of nothing", run(x, 0, "for 7[];"), 7);
        due("if", run(x, 0, "if 1[let 5;];if 0[let 6;];if 0-1[let 7;];"), 1);
        due("x of if", x.ran(4), 5);
        due("i in an if", run(x, 0, "for 4[if i-2[let i;];];"), 5);
        due("x", x.ran(4), 3);
        due("a nest", run(x, 0, "for 1[for 1[for 1[for 1[if 1[let ((((((((1))))))));];];];];];"), 5);
        due("fault of it", x.ran(0), 0);
        due("x is 0 at first", run(x, 0, "if x[let 5;];put 200+x as 1;"), 1);
        due("x is 0 at first", x.get(0, 200), 1);
        due("refused", run(x, 0, "put 0-1 as 1;drop 0-1;get 0-1;drop 77;put 999999*999999*0-1 as 2;get 4;"), 6);
        due("how many", x.ran(3), 5);
        // 46341 * 46340 + 41707 is 2147483647.
        due("no key", run(x, 0, "put 46341*46340+41707 as 1;"), 1);
        due("is 2147483647", x.ran(3), 1);
        due("the greatest key", run(x, 0, "put 46341*46340+41706 as 1;"), 1);
        due("is 2147483646", x.ran(3), 0);
        due("is there", x.get(0, TOP), 1);
    }

    private static void sum(ClashFree x, String text, int want) {
        due("run of " + text, run(x, 0, "let " + text + ";"), 1);
        due("x of " + text, x.ran(4), want);
    }

    private static void sums() {
        ClashFree x = made(8, 25, 0, 1);
        sum(x, "1+2*3", 7);
        sum(x, "(1+2)*3", 9);
        sum(x, "10-3-2", 5);
        sum(x, "10-(3-2)", 9);
        sum(x, "100/7/2", 7);
        sum(x, "100/(7/2)", 33);
        sum(x, "17%5*3", 6);
        sum(x, "2*17%5", 4);
        sum(x, "(0-7)/2", -3);
        sum(x, "(0-7)%2", -1);
        sum(x, "7/(0-2)", -3);
        sum(x, "7%(0-2)", 1);
        sum(x, "5/0", 0);
        sum(x, "5%0", 0);
        sum(x, "0/0+1", 1);
        sum(x, "999999*999999", (int) (999999L * 999999L));
        sum(x, "46341*46340+41707+1", Integer.MIN_VALUE);
        sum(x, "(46341*46340+41707+1)/(0-1)", Integer.MIN_VALUE);
        sum(x, "(46341*46340+41707+1)%(0-1)", 0);
        sum(x, "000007", 7);
        sum(x, " 1 \n+ ( 2 ) ", 3);
        sum(x, "i", 0);
        sum(x, "x", 0);
        sum(x, "1+2*(3+4*(5+6*(7-8*(9))))", 1 + 2 * (3 + 4 * (5 + 6 * (7 - 8 * 9))));
        sum(x, "1-2+3-4*5/6%7+8", 1 - 2 + 3 - 4 * 5 / 6 % 7 + 8);
        due("x in sums", run(x, 0, "let 5;let x*x;let x-1;"), 3);
        due("x in sums", x.ran(4), 24);
    }

    private static void steps() {
        ClashFree x = made(8, 25, 0, 1);
        due("just 300", run(x, 0, "for 150[let i;];"), 300);
        due("not ended", x.ran(5), 0);
        due("x", x.ran(4), 149);
        due("a 301st", run(x, 0, "for 150[let i;];let 7;"), 300);
        due("ended", x.ran(5), 1);
        due("not done", x.ran(4), 149);
        due("a 301st round", run(x, 0, "let 7;for 149[let i;];let 8;for 2[];let 9;"), 300);
        due("ended", x.ran(5), 1);
        due("x", x.ran(4), 8);
        due("refused ones are steps", run(x, 0, "for 200[drop 5;];"), 300);
        due("refused", x.ran(3), 150);
        due("a put is not done", run(x, 0, "for 150[let i;];put 5 as 5;"), 300);
        due("none was put", x.has(0, 0), 0);
        due("no reads of it", x.has(0, 8), 150);
        due("nested", run(x, 0, "for 200[for 200[];];"), 300);
        due("ended", x.ran(5), 1);
        due("if is no step", run(x, 0, "for 150[if 1[if 1[let 1;];];];if 1[];"), 300);
        due("not ended", x.ran(5), 0);
    }

    private static void faults() {
        bad("let", 1, 3, 0);
        bad("let 5", 1, 5, 0);
        bad("let 5 ", 1, 6, 0);
        bad("put 5 as 6;let", 1, 14, 0);
        bad("put 5 6;", 1, 6, 0);
        bad("put 5 as;", 1, 8, 0);
        bad("drop;", 1, 4, 0);
        bad("5;", 1, 0, 0);
        bad(";", 1, 0, 0);
        bad("let 5;;", 1, 6, 0);
        bad("]", 1, 0, 0);
        bad("let -5;", 1, 4, 0);
        bad("let 5+;", 1, 6, 0);
        bad("let 5 5;", 1, 6, 0);
        bad("let (5;", 1, 6, 0);
        bad("let 5);", 1, 5, 0);
        bad("let ();", 1, 5, 0);
        bad("let 5 as 5;", 1, 6, 0);
        bad("as 5;", 1, 0, 0);
        bad("let as;", 1, 4, 0);
        bad("let 1234567;", 1, 4, 0);
        bad("let 0000000;", 1, 4, 0);
        bad("lex 5;", 1, 0, 0);
        bad("le", 1, 0, 0);
        bad("lets 5;", 1, 0, 0);
        bad("letx;", 1, 0, 0);
        bad("letz 5;", 1, 0, 0);
        bad("aet 5;", 1, 0, 0);
        bad("let{5;", 1, 3, 0);
        bad("let`5;", 1, 3, 0);
        bad("let 5:1;", 1, 5, 0);
        bad("let5;", 1, 3, 0);
        bad("let x5;", 1, 5, 0);
        bad("put 5as 6;", 1, 5, 0);
        bad("put 5 as6;", 1, 8, 0);
        bad("for3[];", 1, 3, 0);
        bad("if1[];", 1, 2, 0);
        bad("Let 5;", 1, 0, 0);
        bad("let\t5;", 1, 3, 0);
        bad("let 5;\r", 1, 6, 0);
        bad("let 5;" + (char) 255, 1, 6, 0);
        bad("for x[];", 1, 4, 0);
        bad("for 1+1[];", 1, 5, 0);
        bad("for (1)[];", 1, 4, 0);
        bad("for 5 let 5;", 1, 6, 0);
        bad("for 5;", 1, 5, 0);
        bad("if 5;", 1, 4, 0);
        bad("if [];", 1, 3, 0);
        bad("for 1[]", 1, 7, 0);
        bad("for 1[let 5;", 1, 12, 1);
        bad("for 1[let 5]", 1, 11, 1);
        bad("for 1[if 1[let y;];];", 1, 15, 2);
        bad("for 1[if 1[];]let 5;", 1, 14, 0);
        bad("for 1[];];", 1, 8, 0);
        bad("for 1[for x[];];", 1, 10, 1);
        good("let 123456;");
        good("let(5);");
        good("if(1)[];");
        good("if 1[]\n;");
        good("\nlet\n5\n;\n");
        good("put(1)as(2);");
        StringBuilder longest = new StringBuilder();
        for (int n = 0; n < 100; n++) {
            longest.append("get 1;");
        }
        good(longest.toString());
        bad(longest + " ", 1, 600, 0);
        bad("]" + longest, 1, 600, 0);
        bad("for 1[" + longest, 1, 600, 0);
    }

    private static void faultsOfDepth() {
        bad("for 201[];", 2, 4, 0);
        bad("for 999999[];", 2, 4, 0);
        bad("for 000201[];", 2, 4, 0);
        good("for 200[];");
        good("for 000200[];");
        bad("for 1234567[];", 1, 4, 0);
        bad("for201[];", 1, 3, 0);
        bad("if 1[for 201[];];", 2, 9, 1);
        String five = "for 1[if 1[for 1[if 1[for 1[";
        good(five + "];];];];];");
        bad(five + "for 1[];];];];];];", 3, 28, 5);
        bad(five + "let 1;if 1[];];];];];];", 3, 34, 5);
        good(five + "let 1;];];];];];" + five + "];];];];];");
        good("let ((((((((1))))))));");
        bad("let (((((((((1)))))))));", 3, 12, 0);
        bad("if 1[let 1+(1+(1+(1+(1+(1+(1+(1+(1+(2)))))))));];", 3, 35, 1);
        good("let (((((((1)))))))+((((((((1))))))));");
    }

    private static void faultsOfSeveral() {
        String five = "for 1[if 1[for 1[if 1[for 1[";
        bad("for 300[];let;", 2, 4, 0);
        bad("for 300 let", 2, 4, 0);
        bad("let;for 300[];", 1, 3, 0);
        bad("for 300[for 400[];];", 2, 4, 0);
        bad("let (((((((((1", 3, 12, 0);
        bad("let (((((((((", 3, 12, 0);
        bad("let ((((((((1(", 1, 13, 0);
        bad("let (((((((((1)))))))));for 300[];", 3, 12, 0);
        bad(five + "for 300[", 3, 28, 5);
        bad(five + "for 300 1", 2, 32, 5);
        bad(five + "if (((((((((1)))))))))[", 3, 28, 5);
        bad(five + "if (((((((((1)))))))));", 3, 39, 5);
        bad(five + "for 1 1", 1, 34, 5);
        bad(five + "for 1 1[", 1, 34, 5);
        bad(five + "if 1 1[", 1, 33, 5);
        bad(five + "for", 1, 31, 5);
        bad(five + "for 1[" + five, 3, 28, 5);
    }

    private static void ran() {
        ClashFree x = made(8, 25, 0, 1);
        run(x, 0, "for 200[drop 1;let i;];");
        long[] all = {0, -1, -1, 100, 99, 1};
        feed(x, bytesOf("let;"));
        due("run that is -2", x.run(2), -2);
        for (int what = 0; what < 6; what++) {
            due("ran " + what + " of the latest", x.ran(what), all[what]);
        }
        due("ran 6", x.ran(6), NOTHING);
        due("ran -1", x.ran(-1), NOTHING);
        x.run(0);
        due("ran of a fault", x.ran(0), 1);
        run(x, 0, "");
        due("ran behind a fault", x.ran(0), 0);
        due("ran behind a fault", x.ran(1), -1);
    }

    private static void image() {
        ClashFree x = made(8, 100, 0, 5);
        x.put(0, 7, 70);
        due("image no table", x.image(1), -1);
        due("octet of none", x.octet(0), -1);
        due("image", x.image(0), 22);
        int[] bytes = {8, 0, 100, 0, 79, 56, 65, 91, 91, 94, 80, 9, 1, 0, 0, 0, 7, 0, 0, 0, 70, 244};
        for (int i = 0; i < bytes.length; i++) {
            due("octet " + i, x.octet(i), bytes[i]);
        }
        due("octet 22", x.octet(22), -1);
        due("octet -1", x.octet(-1), -1);
        x.put(0, 7, -1);
        due("octet of the latest image", x.octet(20), 70);
        due("image of none", x.image(3), -1);
        due("octet of the latest image", x.octet(20), 70);
        x.image(0);
        due("octet of a value below 0", x.octet(17), 255);
        x.make(1, 64, 300, 200, 5);
        due("image without keys", x.image(1), 14);
        due("octet bound", x.octet(0), 64);
        due("octet spread", x.octet(1), 1);
        due("octet spread", x.octet(2), 44);
        due("octet growth", x.octet(3), 200);
        due("octet behind", x.octet(14), -1);
        ClashFree y = full();
        due("the longest", y.image(0), 1294);
        due("keys of it", y.octet(12), 160);
        due("the last of it", y.octet(1293) >= 0 ? 1 : 0, 1);
    }

    private static void back() {
        ClashFree x = new ClashFree();
        int[] image = imageOf(8, 100, 0, 5, 7, 70, 9, -1);
        feed(x, image);
        due("back no such", x.back(4), -2);
        due("back no such", x.back(-1), -2);
        due("the tape stays", x.count(2), 30);
        due("back", x.back(2), 2);
        due("the tape goes", x.count(2), 0);
        due("back: value", x.get(2, 9), -1);
        due("back: built as it is made", x.has(2, 11), 0);
        due("back: laid", x.has(2, 12), 2);
        due("back: a", x.has(2, 6), 1724882993);
        due("back: limit", x.has(2, 1), 6);
        due("back of nothing", x.back(2), -1);
        due("all else stays", x.has(2, 0), 2);
        for (int i = 0; i < image.length; i++) {
            int[] other = image.clone();
            other[i] = (other[i] + 1) % 256;
            due("back of one with byte " + i + " changed", back(x, 1, other), -1);
            due("the tape goes", x.count(2), 0);
        }
        due("none was made", x.count(0), 1);
        due("back without keys", back(x, 1, imageOf(64, 400, 200, -1)), 0);
        due("back of keys not rising", back(x, 2, imageOf(8, 100, 0, 5, 9, 70, 7, -1)), -1);
        due("back of like keys", back(x, 2, imageOf(8, 100, 0, 5, 9, 70, 9, 70)), -1);
        due("back of no key", back(x, 2, imageOf(8, 100, 0, 5, 9, 70, P, 1)), -1);
        due("back of no key", back(x, 2, imageOf(8, 100, 0, 5, -1, 70, 9, 1)), -1);
        due("back of the greatest key", back(x, 3, imageOf(8, 100, 0, 5, 0, 70, TOP, 1)), 2);
        int[][] wrongs = {{7, 100, 0}, {65, 100, 0}, {8, 24, 0}, {8, 401, 0}, {8, 100, 201}, {0, 0, 0}, {8, 0, 0}};
        for (int[] one : wrongs) {
            due("back of numbers not as told", back(x, 2, imageOf(one[0], one[1], one[2], 5)), -1);
        }
        int[] shorter = java.util.Arrays.copyOf(image, image.length - 1);
        due("back of a shorter one", back(x, 2, checked(shorter)), -1);
        int[] longer = java.util.Arrays.copyOf(image, image.length + 1);
        due("back of a longer one", back(x, 2, checked(longer)), -1);
        due("back of 13 bytes", back(x, 2, checked(new int[13])), -1);
        int[] most = new int[322];
        for (int k = 0; k < 161; k++) {
            most[2 * k] = k;
        }
        due("back of 161", back(x, 2, imageOf(8, 100, 0, 5, most)), -1);
        due("back of 160", back(x, 2, imageOf(8, 100, 0, 5, java.util.Arrays.copyOf(most, 320))), 160);
        due("and no more", x.put(2, 500, 1), -3);
    }

    private static void copy() {
        ClashFree x = sixty();
        x.get(0, 0);
        x.put(0, 5, 5);
        due("copy itself", x.copy(0, 0), -2);
        due("copy of none", x.copy(1, 2), -2);
        due("copy of none", x.copy(0, -1), -2);
        due("copy to none", x.copy(4, 0), -2);
        due("copy to none", x.copy(-1, 0), -2);
        due("copy", x.copy(3, 0), 1);
        for (int what = 0; what < 17; what++) {
            due("copied has " + what, x.has(3, what), x.has(0, what));
        }
        for (int k = 0; k < 61; k++) {
            due("copied walk " + k, x.walk(3, k), x.walk(0, k));
            due("copied value " + k, x.get(3, x.key(0, k)), x.get(0, x.key(0, k)));
        }
        x.drop(3, 5);
        due("the other one stays", x.get(0, 5), 5);
        due("apart", x.has(0, 0), 61);
        x.make(1, 8, 25, 0, 1);
        due("copy of a lesser one over a greater", x.copy(0, 1), 1);
        due("its buckets", x.has(0, 3), 1);
        due("its keys", x.has(0, 0), 0);
        for (int key = 0; key < 40; key++) {
            due("both go on alike", x.put(0, key * key, key), x.put(1, key * key, key));
            due("both go on alike", x.has(0, 13), x.has(1, 13));
            due("both go on alike", x.crowd(0, 1), x.crowd(1, 1));
        }
    }

    private static void count() {
        ClashFree x = two();
        due("count tables", x.count(0), 2);
        due("count keys", x.count(1), 7);
        x.feed(1, 2, 3, 4, 5);
        due("count tape", x.count(2), 20);
        due("count 3", x.count(3), -1);
        due("count -1", x.count(-1), -1);
        x.make(0, 8, 25, 0, 1);
        due("count tables", x.count(0), 2);
        due("count keys", x.count(1), 3);
    }
}
