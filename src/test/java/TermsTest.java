import java.lang.reflect.Field;
import java.util.ArrayList;
import java.util.List;

/** Terms I and II and the constants, sentence by sentence, each with the boundary cases that it names. */
public final class TermsTest extends Sentences {
    // Numbers s next to one another draw alike at first; so many times one they do not.
    private static final long APART = 0x9E3779B97F4A7C15L;

    public static void main(String[] args) throws ReflectiveOperationException {
        section("Constants");
        constants();
        section("Term I");
        keysAndPlaces();
        draws();
        settings();
        whatTablesHave();
        bucketIsBuilt();
        allIsBuilt();
        outerPairs();
        fourHundredPairs();
        putOfOneThere();
        putForCount();
        putIntoRooms();
        putBySum();
        drop();
        reads();
        readsAt160();
        counts();
        section("Term II");
        frozen();
        thousandPairs();
        whole(3);
        finish();
    }

    private static void constants() {
        says("`NONE = -1`: There is none.");
        due("NONE", ClashFree.NONE, -1);
        says("`NOTHING = -1000000000000000L`: Told where a number below 0 may be one.");
        due("NOTHING", ClashFree.NOTHING, -1000000000000000L);
    }

    private static List<Integer> some(int n) {
        List<Integer> keys = new ArrayList<>();
        for (int k = 0; k < n; k++) {
            keys.add(k * k * 31 + 7 * k);
        }
        return keys;
    }

    /** TABLE 0 of a new object, by back(). */
    private static ClashFree with(List<Integer> keys, int bound, int spread, int growth, long s) {
        int[] all = new int[2 * keys.size()];
        for (int k = 0; k < keys.size(); k++) {
            all[2 * k] = keys.get(k);
        }
        ClashFree x = new ClashFree();
        due("back", back(x, 0, imageOf(bound, spread, growth, s, all)), keys.size());
        return x;
    }

    private static void keysAndPlaces() {
        says("KEYS are 0 .. 2147483646, VALUES any ints.");
        ClashFree x = made(8, 100, 0, 5);
        so("the least KEY", x.put(0, 0, Integer.MIN_VALUE) > 0);
        so("the greatest KEY", x.put(0, TOP, Integer.MAX_VALUE) > 0);
        so("a VALUE of -1", x.put(0, 1, -1) > 0);
        due("the least VALUE", x.get(0, 0), Integer.MIN_VALUE);
        due("the greatest VALUE", x.get(0, TOP), Integer.MAX_VALUE);
        due("VALUE -1", x.get(0, 1), -1);
        due("below the least", x.put(0, -1, 0), -2);
        due("above the greatest", x.put(0, P, 0), -2);
        due("the least int", x.put(0, Integer.MIN_VALUE, 0), -2);
        due("no others came", x.has(0, 0), 3);

        says("P is 2147483647. The PLACE of a KEY by a PAIR (a, b) among n: (a times KEY and b) mod P, of that the rest by n.");
        ClashFree y = sixty();
        for (int key : new int[] {0, 1, 2, 3, 46340, 46341, 65535, 65536, 1 << 30, TOP - 1, TOP}) {
            int j = Draws.place(y.has(0, 6), y.has(0, 7), key, y.has(0, 3));
            due("PLACE of " + key, y.place(0, key, 0), j);
            long rooms = y.bucket(0, j, 1) * y.bucket(0, j, 1);
            int room = rooms == 0 ? -1 : Draws.place(y.bucket(0, j, 2), y.bucket(0, j, 3), key, rooms);
            due("ROOM of " + key, y.place(0, key, 1), room);
        }
        // The products are 4611686011984936962 and less: (P less 1) times 2147483646 is 1 mod P, with b of P less 1 it is 0.
        ClashFree z = made(64, 25, 0, 1);
        z.put(0, TOP, 1);
        z.put(0, 0, 1);
        due("the roof of two", z.bucket(0, 0, 1), 2);
        due("0 and P less 1 of 4 are apart", z.inner(0, 0, TOP, TOP), 0);
        due("1 and 0 of 4 are apart", z.inner(0, 0, TOP, 0), 0);
        due("rest 0 and rest 2 of 3", z.outer(0, TOP, TOP, 3, 2), 2);
    }

    private static void draws() {
        says("A DRAW of n by s (64 bits): s becomes s times 6364136223846793005 and 1442695040888963407 (it wraps); "
            + "s without a sign by 2 to the 33, cut, of that the rest by n.");
        for (long s : new long[] {0, 1, -1, 5, Long.MAX_VALUE, Long.MIN_VALUE, 1L << 33, -1L << 33, 1442695040888963407L}) {
            ClashFree x = made(8, 100, 0, s);
            Draws paper = new Draws(s);
            paper.pair();
            due("s behind two draws of " + s, x.has(0, 13), paper.s());
            due("a by " + s, x.has(0, 6), paper.a);
            due("b by " + s, x.has(0, 7), paper.b);
        }

        says("A PAIR is drawn: a is 1 and a DRAW of P less 1, then b a DRAW of P.");
        // s, which of its two draws is at an end, the 31 bits of it, what a or b is then.
        long[][] ends = {{-3990628593227445038L, 0, P - 2, P - 1}, {3304166281475345618L, 0, P - 1, 1},
            {-7847782917531415342L, 0, P, 2}, {-4066733549337795729L, 1, P - 2, P - 2}, {1427645566418854767L, 1, P - 1, P - 1},
            {6922024682175505263L, 1, P, 0}};
        for (long[] one : ends) {
            Draws paper = new Draws(one[0]);
            long first = paper.bits();
            due("the bits of the draw", one[1] == 0 ? first : paper.bits(), one[2]);
            due("a or b of a draw at the ends", made(8, 100, 0, one[0]).has(0, one[1] == 0 ? 6 : 7), one[3]);
        }
    }

    private static void settings() {
        says("TABLES 0 .. 3, each made with a BOUND (8 .. 64), a SPREAD (25 .. 400), a GROWTH (0 .. 200), s.");
        int[][] can = {{0, 8, 25, 0}, {3, 8, 25, 0}, {0, 64, 25, 0}, {0, 8, 400, 0}, {0, 8, 25, 200}, {3, 64, 400, 200}};
        for (int[] one : can) {
            due("make at the edge", new ClashFree().make(one[0], one[1], one[2], one[3], 1), 1);
        }
        int[][] cannot = {{-1, 8, 25, 0}, {4, 8, 25, 0}, {0, 7, 25, 0}, {0, 65, 25, 0}, {0, 8, 24, 0}, {0, 8, 401, 0},
            {0, 8, 25, -1}, {0, 8, 25, 201}};
        for (int[] one : cannot) {
            due("make beyond the edge", new ClashFree().make(one[0], one[1], one[2], one[3], 1), -2);
        }
    }

    private static void whatTablesHave() {
        says("A TABLE has KEYS (160 at most) with VALUES, a LIMIT, a COUNT, an outer PAIR, BUCKETS (by numbers from 0 on);");
        ClashFree x = full();
        due("a 161st KEY", x.put(0, 500, 1), -3);
        due("160 at most", x.has(0, 0), 160);
        due("LIMIT", x.has(0, 1) >= 160 ? 1 : 0, 1);
        so("COUNT", x.has(0, 2) >= 160 && x.has(0, 2) <= x.has(0, 1));
        so("an outer PAIR", x.has(0, 6) >= 1 && x.has(0, 6) < P && x.has(0, 7) >= 0 && x.has(0, 7) < P);
        int last = (int) x.has(0, 3) - 1;
        due("no BUCKET -1", x.bucket(0, -1, 0), NOTHING);
        so("BUCKET 0", x.bucket(0, 0, 0) >= 0);
        so("the last BUCKET", x.bucket(0, last, 0) >= 0);
        due("none behind it", x.bucket(0, last + 1, 0), NOTHING);

        says("a BUCKET has KEYS, a ROOF, ROOF times ROOF ROOMS, a PAIR (when it has ROOMS).");
        ClashFree y = sixty();
        long rooms = 0;
        for (int j = 0; j < y.has(0, 3); j++) {
            int roof = (int) y.bucket(0, j, 1);
            due("ROOF is twice the KEYS", roof, 2 * y.bucket(0, j, 0));
            due("ROOMS end", y.room(0, j, roof * roof), -2);
            so("the last ROOM", roof == 0 || y.room(0, j, roof * roof - 1) >= -1);
            so("a PAIR", roof == 0 ? y.bucket(0, j, 2) == -1 && y.bucket(0, j, 3) == -1
                : y.bucket(0, j, 2) >= 1 && y.bucket(0, j, 3) >= 0);
            rooms += roof * roof;
        }

        says("A KEY is in the BUCKET that is its PLACE by the outer PAIR among BUCKETS, "
            + "in the ROOM that is its PLACE by that BUCKET's PAIR among its ROOMS.");
        for (int k = 0; k < 60; k++) {
            int key = y.key(0, k);
            due("the KEY in its ROOM", y.room(0, y.place(0, key, 0), y.place(0, key, 1)), key);
        }

        says("SUM: all ROOMS.");
        due("SUM", y.has(0, 4), rooms);
        due("SUM without KEYS", made(8, 400, 200, 1).has(0, 4), 0);
    }

    private static void bucketIsBuilt() {
        says("A BUCKET is BUILT: PAIRS are drawn for it, till no two of its KEYS have one ROOM "
            + "(one PAIR at least, if it has ROOMS; none without).");
        int most = 0;
        for (long n = 1; n <= 200; n++) {
            long s = n * APART;
            ClashFree x = made(8, 25, 0, s);
            Draws paper = new Draws(s);
            paper.pair();
            due("none for a BUCKET without ROOMS", x.has(0, 9), 1);
            List<Integer> keys = new ArrayList<>();
            for (int key : new int[] {10, 20, 31}) {
                keys.add(key);
                int before = paper.pairs;
                int told = x.put(0, key, 1);
                if (told > 1) {
                    paper.bucket(keys, (int) (x.bucket(0, 0, 1) * x.bucket(0, 0, 1)));
                    due("a of the BUCKET", x.bucket(0, 0, 2), paper.a);
                    due("b of the BUCKET", x.bucket(0, 0, 3), paper.b);
                }
                due("PAIRS", x.has(0, 9), paper.pairs);
                so("one at least", told == 1 ? paper.pairs == before : paper.pairs > before);
                due("one, for a single KEY", keys.size() == 1 ? paper.pairs : 2, 2);
                most = Math.max(most, paper.pairs - before);
            }
        }
        so("some took more than two", most > 2);
    }

    private static void allIsBuilt() {
        says("ALL is BUILT: LIMIT is as many KEYS as there are, and GROWTH of 100 of that, cut, and 4;");
        // KEYS, GROWTH, LIMIT.
        int[][] limits = {{0, 0, 4}, {0, 200, 4}, {1, 0, 5}, {1, 99, 5}, {1, 100, 6}, {1, 199, 6}, {1, 200, 7}, {3, 33, 7}, {3, 34, 8},
            {100, 1, 105}, {99, 1, 103}, {160, 0, 164}, {160, 200, 484}};
        for (int[] one : limits) {
            due("LIMIT of " + one[0] + ", " + one[1], with(some(one[0]), 64, 400, one[1], 9).has(0, 1), one[2]);
        }

        says("COUNT is how many KEYS there are;");
        due("COUNT without KEYS", made(8, 100, 0, 1).has(0, 2), 0);
        ClashFree x = with(some(7), 8, 100, 100, 1);
        due("COUNT as it is made", x.has(0, 2), 7);
        x.drop(0, 0);
        x.put(0, 5, 5);
        x.drop(0, 5);
        due("COUNT ahead of it", x.has(0, 2), 10);
        x.build(0);
        due("COUNT behind it", x.has(0, 2), 6);

        says("BUCKETS are SPREAD of 100 of LIMIT, cut, 1 at least.");
        // KEYS, GROWTH, SPREAD, BUCKETS; BOUND 64 takes the first PAIR. No SPREAD is so small that it were none.
        int[][] buckets = {{0, 0, 25, 1}, {0, 0, 49, 1}, {0, 0, 50, 2}, {0, 0, 400, 16}, {3, 0, 25, 1}, {4, 0, 25, 2}, {3, 0, 28, 1},
            {3, 0, 29, 2}, {160, 200, 400, 1936}, {160, 0, 400, 656}, {160, 200, 25, 121}};
        for (int[] one : buckets) {
            due("BUCKETS of " + one[0] + ", " + one[2], with(some(one[0]), 64, one[2], one[1], 9).has(0, 3), one[3]);
        }
    }

    /** TABLE 0 is as ALL is BUILT on paper; tells how many outer PAIRS that took. */
    private static int likePaper(ClashFree x, List<Integer> keys, int n, long s) {
        Draws paper = new Draws(s);
        int buckets = n;
        long bound = x.has(0, 5);
        List<List<Integer>> parts;
        boolean within;
        do {
            paper.pair();
            parts = paper.dealt(keys, buckets);
            within = 4 * Draws.squares(parts) <= bound;
            if (!within && paper.pairs % 20 == 0) {
                buckets *= 2;
            }
        } while (!within);
        int outer = paper.pairs;
        due("a", x.has(0, 6), paper.a);
        due("b", x.has(0, 7), paper.b);
        due("BUCKETS", x.has(0, 3), parts.size());
        due("SUM", x.has(0, 4), 4L * Draws.squares(parts));
        for (int j = 0; j < parts.size(); j++) {
            due("KEYS of a BUCKET", x.bucket(0, j, 0), parts.get(j).size());
            due("ROOF of it", x.bucket(0, j, 1), 2L * parts.get(j).size());
            paper.bucket(parts.get(j), 4 * parts.get(j).size() * parts.get(j).size());
            due("its PAIR, by numbers", x.bucket(0, j, 2), parts.get(j).isEmpty() ? -1 : paper.a);
        }
        due("PAIRS of all", x.has(0, 9), paper.pairs);
        due("s behind it", x.has(0, 13), paper.s());
        return outer;
    }

    private static void outerPairs() {
        says("An outer PAIR is drawn, ROOFS are twice as many as KEYS in each BUCKET; till SUM is BOUND times LIMIT at most:");
        List<Integer> sixty = new ArrayList<>();
        for (int i = 0; i < 60; i++) {
            sixty.add(i * i * 7919 + i);
        }
        ClashFree x = sixty();
        due("SUM just as BOUND times LIMIT", x.has(0, 4), x.has(0, 5));
        so("more than 40 were not so", likePaper(x, sixty, 16, 78) > 40);
        int atOnce = likePaper(made(8, 25, 0, 3), new ArrayList<>(), 1, 3);
        due("without KEYS the first is taken", atOnce, 1);

        says("behind each 20 PAIRS that were not so BUCKETS are twice as many (2048 at most), then another is drawn;");
        boolean twenty = false;
        boolean twentyOne = false;
        boolean one = false;
        for (int s = 0; s < 250; s++) {
            // 34 of 100 of LIMIT 18 are 6 BUCKETS, of which one PAIR in nine is good.
            int outer = likePaper(with(some(14), 8, 34, 0, s), some(14), 6, s);
            one |= outer == 1;
            twenty |= outer == 20;
            twentyOne |= outer > 20;
        }
        so("the first was taken", one);
        so("the 20th was taken, without more BUCKETS", twenty);
        so("more than 20 were drawn", twentyOne);
    }

    private static Object in(Object holder, String name) throws ReflectiveOperationException {
        Field field = holder.getClass().getDeclaredField(name);
        field.setAccessible(true);
        return field.get(holder);
    }

    /** The KEYS of TABLE 0 as they are held, to be spoiled: with like KEYS no PAIR is good, which no calls can bring about. */
    private static int[] held(ClashFree x) throws ReflectiveOperationException {
        Object table = ((Object[]) in(x, "tables"))[0];
        return (int[]) in(in(table, "keys"), "keys");
    }

    private static void fourHundredPairs() throws ReflectiveOperationException {
        says("a 400th PAIR is taken whatever SUM is.");
        ClashFree x = full();
        java.util.Arrays.fill(held(x), 7);
        Draws paper = new Draws(x.has(0, 13));
        for (int n = 0; n < 400; n++) {
            paper.pair();
        }
        so("it ends", x.build(0) > 400);
        due("a of the 400th", x.has(0, 6), paper.a);
        due("b of the 400th", x.has(0, 7), paper.b);
        due("BUCKETS, 2048 at most", x.has(0, 3), 2048);
        due("all KEYS are in one BUCKET", x.crowd(0, 1), 160);
        due("SUM is what it is", x.has(0, 4), 102400);

        says("Then BUCKETS are BUILT, by numbers.");
        ClashFree y = with(some(50), 8, 100, 0, 4);
        int outer = likePaper(y, some(50), 54, 4);
        so("each BUCKET has its own", y.has(0, 9) - outer >= 54 - y.many(0, 0));
    }

    private static void putOfOneThere() {
        says("PUT of a KEY that is there: its VALUE is another one: 0.");
        ClashFree x = made(8, 100, 0, 5);
        for (int key : new int[] {7, 0, 9, TOP}) {
            x.put(0, key, 1);
        }
        long s = x.has(0, 13);
        due("COUNT is at LIMIT", x.has(0, 1) - x.has(0, 2), 0);
        due("PUT of one there at LIMIT", x.put(0, 7, 71), 0);
        due("its VALUE", x.get(0, 7), 71);
        due("COUNT stays", x.has(0, 2), 4);
        due("KEYS stay", x.has(0, 0), 4);
        due("nothing is drawn", x.has(0, 13), s);
        due("nothing is BUILT", x.has(0, 11), 0);
        due("a like VALUE", x.put(0, 7, 71), 0);
        x.drop(0, 7);
        so("one that was dropped is not there", x.put(0, 7, 72) > 0);
        ClashFree y = full();
        due("of one there as there are 160", y.put(0, 159, 7), 0);
        due("its VALUE", y.get(0, 159), 7);
        due("160 stay", y.has(0, 0), 160);
    }

    private static void putForCount() {
        says("Else COUNT is 1 more. Is it above LIMIT: ALL is BUILT with the KEY: 4.");
        ClashFree x = made(64, 100, 0, 5);
        for (int key = 0; key < 4; key++) {
            so("below LIMIT, at LIMIT", x.put(0, key, key) < 4);
            due("COUNT", x.has(0, 2), key + 1);
            due("not BUILT", x.has(0, 11), 0);
        }
        due("above LIMIT", x.put(0, 4, 4), 4);
        due("BUILT", x.has(0, 11), 1);
        due("with the KEY", x.has(0, 0), 5);
        due("LIMIT with the KEY", x.has(0, 1), 9);
        due("COUNT with the KEY", x.has(0, 2), 5);
        due("it lies in its ROOM", x.room(0, x.place(0, 4, 0), x.place(0, 4, 1)), 4);
    }

    private static void putIntoRooms() {
        says("Else, in its BUCKET: has it fewer KEYS than ROOF: is its ROOM empty, it lies there: 1; else the BUCKET is BUILT with it: 2.");
        int ones = 0;
        int twos = 0;
        for (int s = 1; s <= 40; s++) {
            ClashFree x = made(8, 25, 0, s);
            x.put(0, 10, 1);
            due("fewer than ROOF", x.bucket(0, 0, 1) - x.bucket(0, 0, 0), 1);
            long pairs = x.has(0, 9);
            int room = x.place(0, 20, 1);
            int lodger = x.room(0, 0, room);
            int told = x.put(0, 20, 2);
            due("by its ROOM", told, lodger == -1 ? 1 : 2);
            due("ROOF stays", x.bucket(0, 0, 1), 2);
            due("BUCKETS BUILT", x.has(0, 10), told);
            so("PAIRS", told == 1 ? x.has(0, 9) == pairs : x.has(0, 9) > pairs);
            so("it lies there", told == 2 || x.room(0, 0, room) == 20);
            so("both lie in ROOMS", x.room(0, 0, x.place(0, 10, 1)) == 10 && x.room(0, 0, x.place(0, 20, 1)) == 20);
            ones += told == 1 ? 1 : 0;
            twos += told == 2 ? 1 : 0;
        }
        so("both were seen", ones > 0 && twos > 0);
    }

    /** Puts the next KEY that is not there into a BUCKET of TABLE 0. */
    private static int putInto(ClashFree x, int j) {
        int key = 3;
        while (x.place(0, key, 0) != j || x.would(0, key) == 0) {
            key++;
        }
        return x.put(0, key, 0);
    }

    private static void putBySum() {
        says("Has it as many: ROOF is twice as much (2, if it was 0): is SUM then BOUND times LIMIT at most, "
            + "the BUCKET is BUILT with it: 3; else ALL is BUILT with it: 4.");
        ClashFree x = made(8, 25, 200, 4);
        due("ROOF 0", x.bucket(0, 0, 1), 0);
        due("a first", putInto(x, 0), 3);
        due("ROOF 2", x.bucket(0, 0, 1), 2);
        so("a second", putInto(x, 0) < 3);
        due("as many as ROOF", putInto(x, 0), 3);
        due("ROOF 4", x.bucket(0, 0, 1), 4);
        // BOUND times LIMIT is 80: ROOFS 8 and 4 make just that, 8 and 8 more.
        ClashFree y = with(List.of(1, 2), 8, 25, 200, 4);
        due("LIMIT", y.has(0, 1), 10);
        due("BUCKETS", y.has(0, 3), 2);
        while (y.bucket(0, 0, 0) < 5) {
            putInto(y, 0);
        }
        while (y.bucket(0, 1, 0) < 2) {
            putInto(y, 1);
        }
        due("ROOF 8", y.bucket(0, 0, 1), 8);
        due("ROOF 2", y.bucket(0, 1, 1), 2);
        due("SUM would be just as the bound", putInto(y, 1), 3);
        due("SUM is", y.has(0, 4), 80);
        so("another below its ROOF", putInto(y, 1) < 3);
        due("COUNT is below LIMIT", y.has(0, 2), 9);
        due("ALL was not yet BUILT", y.has(0, 11), 0);
        due("SUM would be above", putInto(y, 1), 4);
        due("ALL was BUILT", y.has(0, 11), 1);
        due("with it", y.has(0, 0), 10);
        due("COUNT", y.has(0, 2), 10);
        due("LIMIT", y.has(0, 1), 34);
    }

    private static void drop() {
        says("DROP of a KEY: COUNT is 1 more, its ROOM is empty; is COUNT above LIMIT, ALL is BUILT: 2; else 1.");
        ClashFree x = made(8, 100, 0, 5);
        x.put(0, 7, 1);
        x.put(0, 9, 1);
        int room = x.place(0, 7, 1);
        due("its ROOM", x.room(0, 1, room), 7);
        due("DROP", x.drop(0, 7), 1);
        due("COUNT is 1 more", x.has(0, 2), 3);
        due("its ROOM is empty", x.room(0, 1, room), -1);
        due("the other lies where it lay", x.room(0, 1, x.place(0, 9, 1)), 9);
        due("ROOF stays", x.bucket(0, 1, 1), 2);
        due("DROP, COUNT then at LIMIT", x.drop(0, 9), 1);
        due("COUNT at LIMIT", x.has(0, 2), 4);
        due("DROP of none", x.drop(0, 9), -1);
        due("is not counted", x.has(0, 2), 4);
        ClashFree y = made(8, 100, 0, 5);
        for (int key = 0; key < 4; key++) {
            y.put(0, key, key);
        }
        due("COUNT at LIMIT", y.has(0, 2), 4);
        due("DROP, COUNT then above", y.drop(0, 2), 2);
        due("BUILT without it", y.has(0, 0), 3);
        due("COUNT", y.has(0, 2), 3);
        due("LIMIT", y.has(0, 1), 7);
        due("BUILT", y.has(0, 11), 1);
        ClashFree z = with(List.of(5), 8, 100, 0, 5);
        for (int n = 0; n < 2; n++) {
            z.drop(0, 5);
            z.put(0, 5, n);
        }
        due("COUNT at LIMIT", z.has(0, 2), 5);
        due("the last KEY goes", z.drop(0, 5), 2);
        due("no KEYS", z.has(0, 0), 0);
        due("LIMIT of none", z.has(0, 1), 4);
    }

    private static void reads(ClashFree x, String what, long more, long[] before) {
        due("READS of " + what, x.has(0, 8) - before[0], more);
        before[0] = x.has(0, 8);
    }

    private static void reads() {
        says("Counted for each TABLE: READS: of get(), put(), drop() (of PROGRAMS, too) one of the BUCKET (as it is ahead of it), "
            + "one of the ROOM, if it has ROOMS");
        // By s 5 the KEYS 7, 0, 9 are in BUCKET 1, 1 in 2, 2 in 0, 8 in 3.
        ClashFree x = made(8, 100, 0, 5);
        long[] n = {0};
        x.get(0, 7);
        reads(x, "get, no ROOMS", 1, n);
        x.drop(0, 7);
        reads(x, "drop, no ROOMS", 1, n);
        x.put(0, 7, 70);
        reads(x, "put, no ROOMS ahead of it", 1, n);
        x.put(0, 7, 71);
        reads(x, "put of one there", 2, n);
        x.put(0, 0, 1);
        reads(x, "put into ROOMS", 2, n);
        x.get(0, 7);
        reads(x, "get of one there", 2, n);
        x.get(0, 9);
        reads(x, "get of one not there, with ROOMS", 2, n);
        x.drop(0, 9);
        reads(x, "drop of one not there, with ROOMS", 2, n);
        x.drop(0, 7);
        reads(x, "drop", 2, n);
        x.drop(0, 0);
        due("COUNT at LIMIT", x.has(0, 1) - x.has(0, 2), 0);
        reads(x, "drop of the last in its BUCKET", 2, n);
        x.get(0, 7);
        reads(x, "get, ROOMS without KEYS", 2, n);
        due("put that BUILDS ALL", x.put(0, 1, 1), 4);
        reads(x, "it, no ROOMS ahead of it", 1, n);
        for (int key : new int[] {-1, P}) {
            x.get(0, key);
            x.put(0, key, 1);
            x.drop(0, key);
        }
        reads(x, "what is no KEY", 0, n);
        ClashFree y = made(8, 100, 0, 5);
        n[0] = 0;
        run(y, 0, "get 7;drop 7;put 7 as 1;put 7 as 2;get 7;drop 7;get 7;");
        reads(y, "a PROGRAM", 1 + 1 + 1 + 2 + 2 + 2 + 2, n);
        run(y, 0, "get 0-1;put 0-1 as 1;drop 0-1;let 5;for 9[];if 1[];");
        reads(y, "a PROGRAM of no KEYS", 0, n);
        run(y, 0, "get 7;let");
        reads(y, "a PROGRAM with a FAULT", 0, n);
        run(y, 0, "for 150[let i;];get 7;");
        reads(y, "a 301st STEP", 0, n);
        y.place(0, 7, 1);
        y.would(0, 7);
        y.room(0, 1, 0);
        y.frozenAt(0, 5, 7);
        y.nearest(0, 7);
        y.build(0);
        y.image(0);
        reads(y, "others", 0, n);
        y.copy(1, 0);
        y.put(1, 7, 7);
        y.put(1, 8, 8);
        n[0] = y.has(0, 8);
        y.join(0, 1);
        reads(y, "join()", 0, n);
        y.cut(0, 1, true);
        reads(y, "cut()", 0, n);
        y.get(1, 7);
        reads(y, "another TABLE", 0, n);
    }

    private static void readsAt160() {
        says("(none of a put as there are 160);");
        ClashFree x = full();
        long[] n = {x.has(0, 8)};
        due("a put", x.put(0, 500, 1), -3);
        reads(x, "it", 0, n);
        due("would", x.would(0, 500), -3);
        reads(x, "it", 0, n);
        due("a put of a PROGRAM", run(x, 0, "put 500 as 1;"), 1);
        due("is REFUSED", x.ran(3), 1);
        reads(x, "it", 0, n);
        // It is not refused, so it is PUT and read as any other.
        due("a put of one there", x.put(0, 5, 1), 0);
        reads(x, "it", 2, n);
        x.get(0, 5);
        reads(x, "a get", 2, n);
        so("a drop", x.drop(0, 5) > 0);
        reads(x, "it", 2, n);
        so("a put as there are 159", x.put(0, 5, 1) > 0);
        so("it is read", x.has(0, 8) > n[0]);
    }

    private static void counts() {
        says("PAIRS drawn; BUCKETS BUILT by themselves; how often ALL was BUILT (not as it was made);");
        ClashFree x = made(8, 100, 0, 5);
        due("PAIRS as it was made", x.has(0, 9), 1);
        due("BUCKETS BUILT", x.has(0, 10), 0);
        due("ALL as it was made", x.has(0, 11), 0);
        x.put(0, 7, 1);
        due("PAIRS", x.has(0, 9), 2);
        due("BUCKETS BUILT by a put", x.has(0, 10), 1);
        x.put(0, 0, 1);
        due("PAIRS, none by a put that is 1", x.has(0, 9), 2);
        due("BUCKETS BUILT, none by it", x.has(0, 10), 1);
        int pairs = x.build(0);
        due("ALL BUILT by build()", x.has(0, 11), 1);
        due("PAIRS by build()", x.has(0, 9), 2 + pairs);
        due("its BUCKETS are not BUILT by themselves", x.has(0, 10), 1);
        due("ALL as it was made by back()", with(some(9), 8, 100, 0, 1).has(0, 11), 0);
        due("BUCKETS as it was made by back()", with(some(9), 8, 100, 0, 1).has(0, 10), 0);

        says("KEYS that were laid in ROOMS as a BUCKET by itself, ALL was BUILT (all that they have then).");
        ClashFree y = made(8, 100, 0, 5);
        due("none as it was made", y.has(0, 12), 0);
        y.put(0, 7, 1);
        due("the BUCKET's only one", y.has(0, 12), 1);
        due("one that lies there", y.put(0, 0, 1), 1);
        due("is not laid so", y.has(0, 12), 1);
        due("a BUCKET of three", y.put(0, 9, 1), 3);
        due("all three", y.has(0, 12), 4);
        y.build(0);
        due("all three by build()", y.has(0, 12), 7);
        y.drop(0, 9);
        y.build(0);
        due("those that it has then", y.has(0, 12), 9);

        says("What is made counts from 0 on (PAIRS, KEYS laid as it is made, too).");
        y.get(0, 7);
        y.make(0, 8, 100, 0, 5);
        long[] anew = {0, 1, 0, 0, 0};
        for (int what = 8; what <= 12; what++) {
            due("made anew, has " + what, y.has(0, what), anew[what - 8]);
        }
        ClashFree z = sixty();
        z.get(0, 0);
        z.build(0);
        z.put(0, 3, 3);
        int[] image = imageOf(64, 400, 0, 5, 7, 70);
        due("back in place", back(z, 0, image), 1);
        long[] back = {0, 2, 0, 0, 1};
        for (int what = 8; what <= 12; what++) {
            due("made by back(), has " + what, z.has(0, what), back[what - 8]);
        }
    }

    /** FROZEN by s is as on paper; tells how many outer PAIRS that took, and in least[0] the least ROOMS that were too many. */
    private static int frozenLikePaper(ClashFree x, List<Integer> keys, long s, int[] least) {
        Draws paper = new Draws(s);
        int n = Math.max(1, keys.size());
        List<List<Integer>> parts = null;
        do {
            if (parts != null) {
                least[0] = Math.min(least[0], Draws.squares(parts));
            }
            paper.pair();
            parts = paper.dealt(keys, n);
        } while (Draws.squares(parts) > 3 * keys.size());
        int outer = paper.pairs;
        due("FROZEN: ROOMS", x.frozen(0, s, 0), Draws.squares(parts));
        due("FROZEN: outer PAIRS", x.frozen(0, s, 1), outer);
        int from = 0;
        int first = Integer.MAX_VALUE;
        int last = -1;
        for (List<Integer> part : parts) {
            int rooms = part.size() * part.size();
            paper.bucket(part, rooms);
            for (int key : part) {
                int room = from + Draws.place(paper.a, paper.b, key, rooms);
                due("FROZEN: where " + key + " lies", x.frozenAt(0, s, key), room);
                first = Math.min(first, room);
                last = Math.max(last, room);
            }
            from += rooms;
        }
        due("FROZEN: PAIRS of BUCKETS", x.frozen(0, s, 2), paper.pairs - outer);
        due("FROZEN: the least", x.frozen(0, s, 3), keys.isEmpty() ? -1 : first);
        due("FROZEN: the last", x.frozen(0, s, 4), last);
        return outer;
    }

    private static void frozen() {
        says("A FROZEN TABLE is made of the KEYS of a TABLE on paper: as many BUCKETS as KEYS (1 at least), "
            + "ROOFS as many as KEYS in each;");
        due("without KEYS there is one BUCKET, with one PAIR", frozenLikePaper(made(8, 100, 0, 5), new ArrayList<>(), 3, new int[1]), 1);
        due("no ROOMS", made(8, 100, 0, 5).frozen(0, 3, 0), 0);
        due("of one KEY", frozenLikePaper(with(some(1), 8, 100, 0, 5), some(1), 3, new int[1]), 1);
        due("one ROOM", with(some(1), 8, 100, 0, 5).frozen(0, 3, 0), 1);
        ClashFree full = full();
        long[] before = new long[17];
        for (int what = 0; what < 17; what++) {
            before[what] = full.has(0, what);
        }
        List<Integer> all = new ArrayList<>();
        for (int key = 0; key < 160; key++) {
            all.add(key);
        }
        so("of 160", frozenLikePaper(full, all, -1, new int[1]) > 0);
        for (int what = 0; what < 17; what++) {
            due("on paper, has " + what + " stays", full.has(0, what), before[what]);
        }

        says("by a told s: outer PAIRS are drawn till ROOMS are no more than 3 times the KEYS");
        boolean just = false;
        for (int s = 0; s < 40; s++) {
            ClashFree x = with(some(3), 8, 100, 0, 5);
            due("three in one BUCKET are 9 ROOMS, no more than 3 times 3", frozenLikePaper(x, some(3), s, new int[1]), 1);
            just |= x.frozen(0, s, 0) == 9;
        }
        so("just 3 times was seen", just);
        int[] least = {Integer.MAX_VALUE};
        boolean more = false;
        for (int n = 0; n < 600; n++) {
            more |= frozenLikePaper(with(some(4), 8, 100, 0, 5), some(4), n * APART, least) > 1;
        }
        so("four in one BUCKET were seen", more);
        due("they are 16 ROOMS, more than 12", least[0], 16);
        least[0] = Integer.MAX_VALUE;
        for (int s = 0; s < 120; s++) {
            frozenLikePaper(with(some(12), 8, 100, 0, 5), some(12), s, least);
        }
        due("of twelve KEYS 38 ROOMS are too many", least[0], 38);
    }

    private static void thousandPairs() throws ReflectiveOperationException {
        says("(1000 PAIRS at most),");
        // Ten like KEYS and 41 others: one PAIR in some 600 is good, by s 191 the 1000th, by s 1271 the 1001st.
        ClashFree x = with(some(51), 8, 100, 0, 5);
        int[] keys = held(x);
        for (int k = 0; k < 51; k++) {
            keys[k] = k < 10 ? 0 : 1000 + (k - 10) * (k - 10) * 37;
        }
        due("the 1000th is drawn", x.frozen(0, 191, 1), 1000);
        so("it is taken", x.frozen(0, 191, 0) > 0 && x.frozen(0, 191, 0) <= 153);
        for (int what = 0; what <= 4; what++) {
            due("a 1001st is not drawn", x.frozen(0, 1271, what), -2);
        }
        due("nor for where a KEY lies", x.frozenAt(0, 1271, 1000), -2);
        so("where a KEY lies", x.frozenAt(0, 191, 1000) >= 0);
        due("one that is not there", x.frozenAt(0, 1271, 1001), -1);

        says("then BUCKETS are BUILT, by numbers.");
        so("of fifty", frozenLikePaper(with(some(50), 8, 100, 0, 5), some(50), 77, new int[1]) > 0);
    }
}
