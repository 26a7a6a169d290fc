import java.util.Random;

/** Long runs of calls drawn by fixed seeds: ClashFree has to answer each as the Model does. */
public final class ModelTest {
    private static final int RUNS = 400;
    private static final int CALLS = 500;
    private static int wrong = 0;
    private static int calls = 0;

    private final int seed;
    private final Random random;
    private final ClashFree one = new ClashFree();
    private final Model two = new Model();
    private final int keyRange;
    private final TextMaker texts;

    private ModelTest(int seed) {
        this.seed = seed;
        this.random = new Random(seed);
        int[] ranges = {6, 40, 300, 100000, 2147483647};
        this.keyRange = ranges[random.nextInt(ranges.length)];
        this.texts = new TextMaker(random);
    }

    private void same(String call, long got, long want) {
        calls++;
        if (got != want) {
            wrong++;
            if (wrong < 30) {
                System.out.println("run " + seed + ": " + call + " answered " + got + ", the model " + want);
            }
        }
    }

    public static void main(String[] args) {
        int runs = args.length > 0 ? Integer.parseInt(args[0]) : RUNS;
        int first = args.length > 1 ? Integer.parseInt(args[1]) : 0;
        for (int seed = first; seed < first + runs && wrong == 0; seed++) {
            ModelTest test = new ModelTest(seed);
            test.start();
            for (int n = 0; n < CALLS && wrong == 0; n++) {
                test.call();
            }
            test.compareAll();
        }
        System.out.println(calls + " calls, " + wrong + " answers are not the model's");
        if (wrong != 0) {
            System.exit(1);
        }
    }

    private void start() {
        if (random.nextInt(4) > 0) {
            make(0);
            if (random.nextBoolean()) {
                make(1);
            }
        }
    }

    private int edgy(int low, int high) {
        int pick = random.nextInt(40);
        if (pick == 0) {
            return low - 1;
        }
        if (pick == 1) {
            return high + 1;
        }
        if (pick == 2) {
            return random.nextInt();
        }
        if (pick == 3) {
            return low;
        }
        if (pick == 4) {
            return high;
        }
        return low + (int) (random.nextDouble() * ((double) high - low + 1));
    }

    private int table() {
        int pick = random.nextInt(30);
        return pick == 0 ? -1 : pick == 1 ? 4 : pick < 18 ? 0 : pick < 25 ? 1 : random.nextInt(4);
    }

    private int aKey() {
        int pick = random.nextInt(60);
        if (pick == 0) {
            return -1;
        }
        if (pick == 1) {
            return 2147483647;
        }
        if (pick == 2) {
            return 2147483646;
        }
        if (pick == 3) {
            return random.nextInt();
        }
        return random.nextInt(keyRange);
    }

    /** Rather one that is there. */
    private int aKeyOf(int t) {
        Model.Table table = two.at(t);
        return table == null || table.map.isEmpty() ? aKey() : two.key(t, random.nextInt(table.map.size()));
    }

    private int aBucket(int t) {
        long n = two.has(t, 3);
        return edgy(0, (int) Math.max(1, Math.min(n, 2048)) - 1);
    }

    /** Rather one with keys. */
    private int aFullBucket(int t) {
        Model.Table table = two.at(t);
        if (table == null || table.map.isEmpty() || random.nextInt(6) == 0) {
            return aBucket(t);
        }
        return two.place(t, two.key(t, random.nextInt(table.map.size())), 0);
    }

    private void make(int t) {
        int bound = random.nextBoolean() ? 8 : edgy(8, 64);
        int spread = random.nextInt(3) == 0 ? 25 : edgy(25, 400);
        int growth = random.nextInt(3) == 0 ? 0 : edgy(0, 200);
        long s = random.nextInt(3) == 0 ? random.nextInt(100) : random.nextLong();
        same("make(" + t + ", " + bound + ", " + spread + ", " + growth + ", " + s + ")",
            one.make(t, bound, spread, growth, s), two.make(t, bound, spread, growth, s));
    }

    private void call() {
        int pick = random.nextInt(100);
        int t = table();
        if (pick < 30) {
            change(t);
        } else if (pick < 70) {
            look(t);
        } else if (pick < 80) {
            paper(t);
        } else if (pick < 88) {
            sets(t);
        } else if (pick < 94) {
            program(t);
        } else {
            images(t);
        }
    }

    private void change(int t) {
        int key = random.nextBoolean() ? aKeyOf(t) : aKey();
        int value = random.nextInt(3) == 0 ? random.nextInt() : random.nextInt(5);
        switch (random.nextInt(16)) {
            case 0: case 1: case 2: case 3: case 4: case 5: case 6:
                same("put(" + t + ", " + key + ")", one.put(t, key, value), two.put(t, key, value));
                break;
            case 7: case 8: case 9: case 10:
                same("drop(" + t + ", " + key + ")", one.drop(t, key), two.drop(t, key));
                break;
            case 11: case 12: case 13:
                same("get(" + t + ", " + key + ")", one.get(t, key), two.get(t, key));
                break;
            case 14:
                same("build(" + t + ")", one.build(t), two.build(t));
                break;
            default:
                if (random.nextInt(12) == 0) {
                    make(random.nextInt(4));
                }
                break;
        }
    }

    private void look(int t) {
        int key = aKey();
        int j = aFullBucket(t);
        int what;
        switch (random.nextInt(14)) {
            case 0: case 1:
                what = edgy(0, 16);
                same("has(" + t + ", " + what + ")", one.has(t, what), two.has(t, what));
                break;
            case 2:
                what = edgy(0, 3);
                same("bucket(" + t + ", " + j + ", " + what + ")", one.bucket(t, j, what), two.bucket(t, j, what));
                break;
            case 3:
                int rooms = (int) Math.max(0, two.bucket(t, j, 1));
                int i = edgy(0, Math.max(0, rooms * rooms - 1));
                same("room(" + t + ", " + j + ", " + i + ")", one.room(t, j, i), two.room(t, j, i));
                break;
            case 4:
                what = edgy(0, 1);
                same("place(" + t + ", " + key + ", " + what + ")", one.place(t, key, what), two.place(t, key, what));
                break;
            case 5:
                what = edgy(0, (int) Math.max(0, two.has(t, 0)));
                same("key(" + t + ", " + what + ")", one.key(t, what), two.key(t, what));
                break;
            case 6:
                what = edgy(0, (int) Math.max(0, two.has(t, 0)));
                same("walk(" + t + ", " + what + ")", one.walk(t, what), two.walk(t, what));
                break;
            case 7:
                same("below(" + t + ", " + key + ")", one.below(t, key), two.below(t, key));
                break;
            case 8:
                same("nearest(" + t + ", " + key + ")", one.nearest(t, key), two.nearest(t, key));
                break;
            case 9:
                what = edgy(0, 4);
                same("many(" + t + ", " + what + ")", one.many(t, what), two.many(t, what));
                break;
            case 10:
                what = edgy(0, 3);
                same("crowd(" + t + ", " + what + ")", one.crowd(t, what), two.crowd(t, what));
                break;
            case 11:
                same("empty(" + t + ")", one.empty(t), two.empty(t));
                break;
            case 12:
                same("left(" + t + ")", one.left(t), two.left(t));
                break;
            default:
                what = edgy(0, 2);
                same("count(" + what + ")", one.count(what), two.count(what));
                break;
        }
    }

    private void paper(int t) {
        long s = random.nextInt(2) == 0 ? random.nextInt(100) : random.nextLong();
        int key = random.nextInt(3) > 0 ? aKeyOf(t) : aKey();
        int a = edgy(1, 2147483646);
        int b = edgy(0, 2147483646);
        int j = aFullBucket(t);
        int n;
        int what;
        switch (random.nextInt(8)) {
            case 0:
                n = edgy(1, random.nextBoolean() ? 20 : 2048);
                what = edgy(0, 3);
                same("outer(" + t + ", " + a + ", " + b + ", " + n + ", " + what + ")",
                    one.outer(t, a, b, n, what), two.outer(t, a, b, n, what));
                break;
            case 1:
                n = edgy(1, random.nextInt(4) == 0 ? 200 : 5);
                what = edgy(0, 2);
                same("best(" + t + ", " + n + ", " + s + ", " + what + ")", one.best(t, n, s, what), two.best(t, n, s, what));
                break;
            case 2:
                if (random.nextBoolean()) {
                    a = 1;
                    b = 0;
                }
                same("inner(" + t + ", " + j + ", " + a + ", " + b + ")", one.inner(t, j, a, b), two.inner(t, j, a, b));
                break;
            case 3:
                n = edgy(1, 200);
                what = edgy(0, 1);
                same("tries(" + t + ", " + j + ", " + n + ", " + s + ", " + what + ")",
                    one.tries(t, j, n, s, what), two.tries(t, j, n, s, what));
                break;
            case 4: case 5:
                key = aKey();
                same("would(" + t + ", " + key + ")", one.would(t, key), two.would(t, key));
                break;
            case 6:
                what = edgy(0, 4);
                same("frozen(" + t + ", " + s + ", " + what + ")", one.frozen(t, s, what), two.frozen(t, s, what));
                break;
            default:
                same("frozenAt(" + t + ", " + s + ", " + key + ")", one.frozenAt(t, s, key), two.frozenAt(t, s, key));
                break;
        }
    }

    private void sets(int t) {
        int other = table();
        int what;
        switch (random.nextInt(10)) {
            case 0: case 1: case 2: case 3:
                what = edgy(0, 3);
                same("shared(" + t + ", " + other + ", " + what + ")", one.shared(t, other, what), two.shared(t, other, what));
                break;
            case 4:
                same("join(" + t + ", " + other + ")", one.join(t, other), two.join(t, other));
                break;
            case 5:
                if (random.nextInt(3) == 0) {
                    boolean has = random.nextBoolean();
                    same("cut(" + t + ", " + other + ", " + has + ")", one.cut(t, other, has), two.cut(t, other, has));
                }
                break;
            case 6:
                same("copy(" + t + ", " + other + ")", one.copy(t, other), two.copy(t, other));
                break;
            default:
                what = edgy(0, 2);
                same("values(" + t + ", " + what + ")", one.values(t, what), two.values(t, what));
                break;
        }
    }

    private void feedText(int[] bytes) {
        for (int from = 0; from < bytes.length; from += 20) {
            int[] five = new int[5];
            for (int i = 0; i < 20; i++) {
                int one = from + i < bytes.length ? bytes[from + i] : 32;
                five[i / 4] = five[i / 4] << 8 | one;
            }
            same("feed", one.feed(five[0], five[1], five[2], five[3], five[4]), two.feed(five[0], five[1], five[2], five[3], five[4]));
        }
        int length = random.nextInt(40) == 0 ? edgy(0, bytes.length) : bytes.length;
        same("end(" + length + ")", one.end(length) ? 1 : 0, two.end(length) ? 1 : 0);
    }

    private void program(int t) {
        int runs = 1 + random.nextInt(4);
        for (int n = 0; n < runs; n++) {
            if (two.count(2) > 0 && random.nextInt(8) > 0) {
                same("end(0)", one.end(0) ? 1 : 0, two.end(0) ? 1 : 0);
            }
            String text = texts.text();
            int[] bytes = new int[text.length()];
            for (int i = 0; i < bytes.length; i++) {
                bytes[i] = text.charAt(i);
            }
            feedText(bytes);
            same("run(" + t + ") of " + text, one.run(t), two.run(t));
            for (int what = -1; what < 7; what++) {
                same("ran(" + what + ") of " + text, one.ran(what), two.ran(what));
            }
        }
    }

    private void images(int t) {
        int length = two.image(t);
        same("image(" + t + ")", one.image(t), length);
        int i = edgy(0, two.written.size());
        same("octet(" + i + ")", one.octet(i), two.octet(i));
        if (random.nextInt(3) > 0) {
            return;
        }
        int[] bytes = new int[two.written.size()];
        for (int k = 0; k < bytes.length; k++) {
            bytes[k] = two.octet(k);
            same("octet(" + k + ")", one.octet(k), bytes[k]);
        }
        spoil(bytes);
        same("end(0)", one.end(0) ? 1 : 0, two.end(0) ? 1 : 0);
        feedText(bytes);
        int to = table();
        same("back(" + to + ")", one.back(to), two.back(to));
    }

    /** One byte is another one, mostly with the check made good again. */
    private void spoil(int[] bytes) {
        if (bytes.length == 0 || random.nextBoolean()) {
            return;
        }
        int at = random.nextInt(random.nextBoolean() ? Math.min(22, bytes.length) : bytes.length);
        bytes[at] = random.nextBoolean() ? random.nextInt(256) : Math.floorMod(bytes[at] + random.nextInt(3) - 1, 256);
        if (random.nextInt(4) > 0) {
            java.util.List<Integer> all = new java.util.ArrayList<>();
            for (int i = 0; i < bytes.length - 1; i++) {
                all.add(bytes[i]);
            }
            bytes[bytes.length - 1] = Model.check(all);
        }
    }

    private void compareAll() {
        for (int t = 0; t < 4; t++) {
            for (int what = -1; what < 18; what++) {
                same("at the end has(" + t + ", " + what + ")", one.has(t, what), two.has(t, what));
            }
            for (int k = 0; k <= two.has(t, 0); k++) {
                same("at the end key(" + t + ", " + k + ")", one.key(t, k), two.key(t, k));
                same("at the end walk(" + t + ", " + k + ")", one.walk(t, k), two.walk(t, k));
                int key = two.key(t, k);
                same("at the end get(" + t + ", " + key + ")", one.get(t, key), two.get(t, key));
            }
            for (int j = 0; j < two.has(t, 3); j++) {
                for (int what = 0; what < 4; what++) {
                    same("at the end bucket(" + t + ", " + j + ", " + what + ")", one.bucket(t, j, what), two.bucket(t, j, what));
                }
                long roof = two.bucket(t, j, 1);
                for (int i = 0; i < roof * roof; i++) {
                    same("at the end room(" + t + ", " + j + ", " + i + ")", one.room(t, j, i), two.room(t, j, i));
                }
            }
        }
    }
}
