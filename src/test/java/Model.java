import java.math.BigInteger;
import java.util.ArrayList;
import java.util.List;
import java.util.Map;
import java.util.TreeMap;

/**
 * The document once more, as naively as it can be said: real rooms, maps, a tree of statements.
 * It shares no code and no way of holding things with ClashFree, so that a slip in one shows against the other.
 */
final class Model {
    static final int NONE = -1;
    static final long NOTHING = -1000000000000000L;
    static final long P = 2147483647L;

    static final class Source {
        BigInteger s;
        long pairs;
        long a;
        long b;

        Source(long s) {
            this.s = BigInteger.valueOf(s).mod(BigInteger.ONE.shiftLeft(64));
        }

        long draw(long n) {
            s = s.multiply(BigInteger.valueOf(6364136223846793005L)).add(BigInteger.valueOf(1442695040888963407L))
                .mod(BigInteger.ONE.shiftLeft(64));
            return s.shiftRight(33).mod(BigInteger.valueOf(n)).longValue();
        }

        void pair() {
            a = 1 + draw(P - 1);
            b = draw(P);
            pairs++;
        }

        Source twin() {
            Source twin = new Source(s.longValue());
            twin.pairs = pairs;
            return twin;
        }
    }

    static int place(long a, long b, long key, long n) {
        return (int) (((a * key + b) % P) % n);
    }

    static final class Bucket {
        int roof;
        long a = -1;
        long b = -1;
        int[] rooms = new int[0];

        void newRooms() {
            rooms = new int[roof * roof];
            java.util.Arrays.fill(rooms, -1);
        }

        List<Integer> keys() {
            List<Integer> found = new ArrayList<>();
            for (int key : rooms) {
                if (key >= 0) {
                    found.add(key);
                }
            }
            return found;
        }

        void build(List<Integer> keys, Source source) {
            if (roof == 0) {
                return;
            }
            boolean clash;
            do {
                source.pair();
                newRooms();
                clash = false;
                for (int key : keys) {
                    int room = place(source.a, source.b, key, rooms.length);
                    clash |= rooms[room] >= 0;
                    rooms[room] = key;
                }
            } while (clash);
            a = source.a;
            b = source.b;
        }

        Bucket twin() {
            Bucket twin = new Bucket();
            twin.roof = roof;
            twin.a = a;
            twin.b = b;
            twin.rooms = rooms.clone();
            return twin;
        }
    }

    static List<List<Integer>> dealt(Iterable<Integer> keys, long a, long b, int n) {
        List<List<Integer>> parts = new ArrayList<>();
        for (int j = 0; j < n; j++) {
            parts.add(new ArrayList<>());
        }
        for (int key : keys) {
            parts.get(place(a, b, key, n)).add(key);
        }
        return parts;
    }

    static long sumOf(List<List<Integer>> parts, int times) {
        long sum = 0;
        for (List<Integer> part : parts) {
            sum += (long) times * part.size() * times * part.size();
        }
        return sum;
    }

    static final class Table {
        int bound;
        int spread;
        int growth;
        Source source;
        TreeMap<Integer, Integer> map = new TreeMap<>();
        int limit;
        int count;
        long a;
        long b;
        List<Bucket> buckets = new ArrayList<>();
        long reads;
        long bucketsBuilt;
        long allBuilt;
        long laid;

        long sum() {
            long sum = 0;
            for (Bucket bucket : buckets) {
                sum += bucket.rooms.length;
            }
            return sum;
        }

        void buildAll() {
            limit = map.size() + map.size() * growth / 100 + 4;
            count = map.size();
            int n = Math.max(1, spread * limit / 100);
            int tried = 0;
            List<List<Integer>> parts;
            while (true) {
                source.pair();
                tried++;
                parts = dealt(map.keySet(), source.a, source.b, n);
                if (sumOf(parts, 2) <= (long) bound * limit || tried == 400) {
                    break;
                }
                if (tried % 20 == 0) {
                    n = Math.min(2048, n * 2);
                }
            }
            a = source.a;
            b = source.b;
            buckets.clear();
            for (List<Integer> part : parts) {
                Bucket bucket = new Bucket();
                bucket.roof = 2 * part.size();
                bucket.newRooms();
                bucket.build(part, source);
                buckets.add(bucket);
            }
            laid += map.size();
        }

        Bucket bucketOf(int key) {
            return buckets.get(place(a, b, key, buckets.size()));
        }

        void read(int key) {
            reads += bucketOf(key).rooms.length > 0 ? 2 : 1;
        }

        int put(int key, int value) {
            if (map.containsKey(key)) {
                map.put(key, value);
                return 0;
            }
            map.put(key, value);
            count++;
            if (count > limit) {
                buildAll();
                allBuilt++;
                return 4;
            }
            Bucket bucket = bucketOf(key);
            List<Integer> members = bucket.keys();
            int told;
            if (members.size() < bucket.roof) {
                int room = place(bucket.a, bucket.b, key, bucket.rooms.length);
                if (bucket.rooms[room] < 0) {
                    bucket.rooms[room] = key;
                    return 1;
                }
                told = 2;
            } else {
                long without = sum() - bucket.rooms.length;
                bucket.roof = bucket.roof == 0 ? 2 : bucket.roof * 2;
                if (without + (long) bucket.roof * bucket.roof > (long) bound * limit) {
                    buildAll();
                    allBuilt++;
                    return 4;
                }
                told = 3;
            }
            members.add(key);
            bucket.build(members, source);
            bucketsBuilt++;
            laid += members.size();
            return told;
        }

        int drop(int key) {
            if (!map.containsKey(key)) {
                return NONE;
            }
            Bucket bucket = bucketOf(key);
            bucket.rooms[place(bucket.a, bucket.b, key, bucket.rooms.length)] = -1;
            map.remove(key);
            count++;
            if (count > limit) {
                buildAll();
                allBuilt++;
                return 2;
            }
            return 1;
        }

        Table twin() {
            Table twin = new Table();
            twin.bound = bound;
            twin.spread = spread;
            twin.growth = growth;
            twin.source = source.twin();
            twin.map = new TreeMap<>(map);
            twin.limit = limit;
            twin.count = count;
            twin.a = a;
            twin.b = b;
            for (Bucket bucket : buckets) {
                twin.buckets.add(bucket.twin());
            }
            twin.reads = reads;
            twin.bucketsBuilt = bucketsBuilt;
            twin.allBuilt = allBuilt;
            twin.laid = laid;
            return twin;
        }
    }

    final Table[] tables = new Table[4];
    final List<Integer> tape = new ArrayList<>();
    List<Integer> written = new ArrayList<>();
    int fault;
    int faultPlace = NONE;
    int faultDepth = NONE;
    int refused;
    int x;
    int ended;

    Table at(int t) {
        return t < 0 || t > 3 ? null : tables[t];
    }

    static boolean isKey(long key) {
        return key >= 0 && key <= 2147483646L;
    }

    int feed(int a, int b, int c, int d, int e) {
        if (tape.size() + 20 > 1400) {
            return NONE;
        }
        for (int number : new int[] {a, b, c, d, e}) {
            tape.add(number >>> 24);
            tape.add(number >>> 16 & 255);
            tape.add(number >>> 8 & 255);
            tape.add(number & 255);
        }
        return tape.size();
    }

    boolean end(int n) {
        if (n < 0 || n > tape.size()) {
            return false;
        }
        while (tape.size() > n) {
            tape.remove(tape.size() - 1);
        }
        return true;
    }

    int make(int t, int bound, int spread, int growth, long s) {
        if (t < 0 || t > 3 || bound < 8 || bound > 64 || spread < 25 || spread > 400 || growth < 0 || growth > 200) {
            return -2;
        }
        Table table = new Table();
        table.bound = bound;
        table.spread = spread;
        table.growth = growth;
        table.source = new Source(s);
        table.buildAll();
        tables[t] = table;
        return 1;
    }

    int put(int t, int key, int value) {
        Table table = at(t);
        if (table == null || !isKey(key)) {
            return -2;
        }
        if (table.map.size() == 160 && !table.map.containsKey(key)) {
            return -3;
        }
        table.read(key);
        return table.put(key, value);
    }

    long get(int t, int key) {
        Table table = at(t);
        if (table == null || !isKey(key)) {
            return NOTHING;
        }
        table.read(key);
        return table.map.containsKey(key) ? table.map.get(key) : NOTHING;
    }

    int drop(int t, int key) {
        Table table = at(t);
        if (table == null || !isKey(key)) {
            return -2;
        }
        table.read(key);
        return table.drop(key);
    }

    int build(int t) {
        Table table = at(t);
        if (table == null) {
            return -2;
        }
        long before = table.source.pairs;
        table.buildAll();
        table.allBuilt++;
        return (int) (table.source.pairs - before);
    }

    long has(int t, int what) {
        Table table = at(t);
        if (table == null || what < 0 || what > 16) {
            return NOTHING;
        }
        long[] all = {table.map.size(), table.limit, table.count, table.buckets.size(), table.sum(),
            (long) table.bound * table.limit, table.a, table.b, table.reads, table.source.pairs, table.bucketsBuilt,
            table.allBuilt, table.laid, table.source.s.longValue(), table.bound, table.spread, table.growth};
        return all[what];
    }

    long bucket(int t, int j, int what) {
        Table table = at(t);
        if (table == null || j < 0 || j >= table.buckets.size() || what < 0 || what > 3) {
            return NOTHING;
        }
        Bucket bucket = table.buckets.get(j);
        return new long[] {bucket.keys().size(), bucket.roof, bucket.a, bucket.b}[what];
    }

    int room(int t, int j, int i) {
        Table table = at(t);
        if (table == null || j < 0 || j >= table.buckets.size()) {
            return -2;
        }
        int[] rooms = table.buckets.get(j).rooms;
        return i < 0 || i >= rooms.length ? -2 : rooms[i];
    }

    int place(int t, int key, int what) {
        Table table = at(t);
        if (table == null || !isKey(key) || what != 0 && what != 1) {
            return -2;
        }
        int j = place(table.a, table.b, key, table.buckets.size());
        Bucket bucket = table.buckets.get(j);
        return what == 0 ? j : bucket.rooms.length == 0 ? NONE : place(bucket.a, bucket.b, key, bucket.rooms.length);
    }

    int key(int t, int k) {
        Table table = at(t);
        return table == null || k < 0 || k >= table.map.size() ? NONE : new ArrayList<>(table.map.keySet()).get(k);
    }

    int walk(int t, int k) {
        Table table = at(t);
        if (table == null) {
            return NONE;
        }
        List<Integer> all = new ArrayList<>();
        for (Bucket bucket : table.buckets) {
            all.addAll(bucket.keys());
        }
        return k < 0 || k >= all.size() ? NONE : all.get(k);
    }

    int below(int t, int key) {
        Table table = at(t);
        return table == null || key < 0 ? NONE : table.map.headMap(key).size();
    }

    int nearest(int t, int key) {
        Table table = at(t);
        if (table == null || !isKey(key) || table.map.isEmpty()) {
            return NONE;
        }
        Integer low = table.map.floorKey(key);
        Integer high = table.map.ceilingKey(key);
        if (low == null || high == null) {
            return low == null ? high : low;
        }
        return key - low <= high - key ? low : high;
    }

    int many(int t, int n) {
        Table table = at(t);
        if (table == null || n < 0) {
            return NONE;
        }
        int found = 0;
        for (Bucket bucket : table.buckets) {
            found += bucket.keys().size() == n ? 1 : 0;
        }
        return found;
    }

    int crowd(int t, int what) {
        Table table = at(t);
        if (table == null || what < 0 || what > 3) {
            return NONE;
        }
        int[] all = {0, -1, 0, 0};
        for (int j = 0; j < table.buckets.size(); j++) {
            int held = table.buckets.get(j).keys().size();
            if (held > all[1]) {
                all[0] = j;
                all[1] = held;
            }
            for (int k = 0; k < held; k++) {
                all[2] += held > 1 ? 1 : 0;
                all[3] += k;
            }
        }
        return all[what];
    }

    int empty(int t) {
        Table table = at(t);
        if (table == null) {
            return NONE;
        }
        int found = 0;
        for (Bucket bucket : table.buckets) {
            for (int key : bucket.rooms) {
                found += key < 0 ? 1 : 0;
            }
        }
        return found;
    }

    int left(int t) {
        Table table = at(t);
        if (table == null) {
            return NONE;
        }
        int done = 0;
        int count = table.count;
        do {
            count++;
            done++;
        } while (count <= table.limit);
        return done;
    }

    long outer(int t, int a, int b, int n, int what) {
        Table table = at(t);
        if (table == null || a < 1 || a > P - 1 || b < 0 || b > P - 1 || n < 1 || n > 2048 || what < 0 || what > 3) {
            return NOTHING;
        }
        List<List<Integer>> parts = dealt(table.map.keySet(), a, b, n);
        int most = 0;
        int none = 0;
        for (List<Integer> part : parts) {
            most = Math.max(most, part.size());
            none += part.isEmpty() ? 1 : 0;
        }
        return new long[] {sumOf(parts, 2), sumOf(parts, 1), most, none}[what];
    }

    long best(int t, int n, long s, int what) {
        Table table = at(t);
        if (table == null || n < 1 || n > 200 || what < 0 || what > 2) {
            return NOTHING;
        }
        Source source = new Source(s);
        long[] all = {0, Long.MAX_VALUE, 0};
        for (int k = 0; k < n; k++) {
            source.pair();
            long sum = sumOf(dealt(table.map.keySet(), source.a, source.b, table.buckets.size()), 2);
            if (sum < all[1]) {
                all[0] = k;
                all[1] = sum;
            }
            all[2] += sum <= (long) table.bound * table.limit ? 1 : 0;
        }
        return all[what];
    }

    private static int clashes(Bucket bucket, long a, long b) {
        List<Integer> keys = bucket.keys();
        int found = 0;
        for (int k = 0; k < keys.size(); k++) {
            for (int m = k + 1; m < keys.size(); m++) {
                found += place(a, b, keys.get(k), bucket.rooms.length) == place(a, b, keys.get(m), bucket.rooms.length) ? 1 : 0;
            }
        }
        return found;
    }

    private Bucket withRooms(int t, int j) {
        Table table = at(t);
        if (table == null || j < 0 || j >= table.buckets.size() || table.buckets.get(j).rooms.length == 0) {
            return null;
        }
        return table.buckets.get(j);
    }

    int inner(int t, int j, int a, int b) {
        Bucket bucket = withRooms(t, j);
        return bucket == null || a < 1 || a > P - 1 || b < 0 || b > P - 1 ? NONE : clashes(bucket, a, b);
    }

    int tries(int t, int j, int n, long s, int what) {
        Bucket bucket = withRooms(t, j);
        if (bucket == null || n < 1 || n > 200 || what != 0 && what != 1) {
            return -2;
        }
        Source source = new Source(s);
        List<Integer> good = new ArrayList<>();
        for (int k = 0; k < n; k++) {
            source.pair();
            if (clashes(bucket, source.a, source.b) == 0) {
                good.add(k);
            }
        }
        return what == 1 ? good.size() : good.isEmpty() ? NONE : good.get(0);
    }

    int would(int t, int key) {
        Table table = at(t);
        if (table == null || !isKey(key)) {
            return -2;
        }
        if (table.map.size() == 160 && !table.map.containsKey(key)) {
            return -3;
        }
        return table.twin().put(key, 0);
    }

    /** All ROOMS of the FROZEN TABLE, one behind another, with the PAIRS that were drawn; null: not by 1000. */
    private static final class Frozen {
        List<Integer> rooms = new ArrayList<>();
        int outer;
        int inner;
    }

    private static Frozen freeze(Table table, long s) {
        Source source = new Source(s);
        int n = Math.max(1, table.map.size());
        Frozen frozen = new Frozen();
        while (frozen.outer < 1000) {
            source.pair();
            frozen.outer++;
            List<List<Integer>> parts = dealt(table.map.keySet(), source.a, source.b, n);
            if (sumOf(parts, 1) <= 3L * table.map.size()) {
                for (List<Integer> part : parts) {
                    Bucket bucket = new Bucket();
                    bucket.roof = part.size();
                    bucket.newRooms();
                    bucket.build(part, source);
                    for (int key : bucket.rooms) {
                        frozen.rooms.add(key);
                    }
                }
                frozen.inner = (int) source.pairs - frozen.outer;
                return frozen;
            }
        }
        return null;
    }

    long frozen(int t, long s, int what) {
        Table table = at(t);
        if (table == null || what < 0 || what > 4) {
            return NOTHING;
        }
        Frozen frozen = freeze(table, s);
        if (frozen == null) {
            return -2;
        }
        int first = NONE;
        int last = NONE;
        for (int i = 0; i < frozen.rooms.size(); i++) {
            if (frozen.rooms.get(i) >= 0) {
                first = first < 0 ? i : first;
                last = i;
            }
        }
        return new long[] {frozen.rooms.size(), frozen.outer, frozen.inner, first, last}[what];
    }

    int frozenAt(int t, long s, int key) {
        Table table = at(t);
        if (table == null || !table.map.containsKey(key)) {
            return NONE;
        }
        Frozen frozen = freeze(table, s);
        return frozen == null ? -2 : frozen.rooms.indexOf(key);
    }

    int shared(int t, int other, int what) {
        Table one = at(t);
        Table two = at(other);
        if (one == null || two == null || what < 0 || what > 3) {
            return NONE;
        }
        java.util.TreeSet<Integer> both = new java.util.TreeSet<>(one.map.keySet());
        both.retainAll(two.map.keySet());
        java.util.TreeSet<Integer> any = new java.util.TreeSet<>(one.map.keySet());
        any.addAll(two.map.keySet());
        java.util.TreeSet<Integer> alone = new java.util.TreeSet<>(one.map.keySet());
        alone.removeAll(two.map.keySet());
        int like = 0;
        for (int key : both) {
            like += one.map.get(key).equals(two.map.get(key)) ? 1 : 0;
        }
        return new int[] {both.size(), any.size(), alone.size(), like}[what];
    }

    int join(int t, int other) {
        Table one = at(t);
        Table two = at(other);
        if (one == null || two == null || t == other) {
            return -2;
        }
        int came = 0;
        for (Map.Entry<Integer, Integer> entry : two.map.entrySet()) {
            boolean there = one.map.containsKey(entry.getKey());
            if (!there && one.map.size() == 160) {
                return came;
            }
            one.put(entry.getKey(), entry.getValue());
            came += there ? 0 : 1;
        }
        return came;
    }

    int cut(int t, int other, boolean has) {
        Table one = at(t);
        Table two = at(other);
        if (one == null || two == null || t == other) {
            return -2;
        }
        int went = 0;
        for (int key : new ArrayList<>(one.map.keySet())) {
            if (two.map.containsKey(key) == has) {
                one.drop(key);
                went++;
            }
        }
        return went;
    }

    long values(int t, int what) {
        Table table = at(t);
        if (table == null || what < 0 || what > 2) {
            return NOTHING;
        }
        long best = NONE;
        long value = NOTHING;
        long sum = 0;
        for (Map.Entry<Integer, Integer> entry : table.map.entrySet()) {
            sum += entry.getValue();
            if (entry.getValue() > value) {
                best = entry.getKey();
                value = entry.getValue();
            }
        }
        return new long[] {best, value, sum}[what];
    }

    int run(int t) {
        Table table = at(t);
        if (table == null) {
            return -2;
        }
        ModelProgram program = new ModelProgram(tape);
        tape.clear();
        fault = program.fault;
        faultPlace = program.place;
        faultDepth = program.depth;
        refused = 0;
        x = 0;
        ended = 0;
        if (fault != 0) {
            return NONE;
        }
        program.run(table);
        refused = program.refused;
        x = program.x;
        ended = program.ended ? 1 : 0;
        return program.steps;
    }

    long ran(int what) {
        if (what < 0 || what > 5) {
            return NOTHING;
        }
        return new long[] {fault, faultPlace, faultDepth, refused, x, ended}[what];
    }

    int image(int t) {
        Table table = at(t);
        if (table == null) {
            return NONE;
        }
        List<Integer> bytes = new ArrayList<>();
        bytes.add(table.bound);
        number(bytes, table.spread, 2);
        bytes.add(table.growth);
        number(bytes, table.source.s.longValue(), 8);
        bytes.add(table.map.size());
        for (Map.Entry<Integer, Integer> entry : table.map.entrySet()) {
            number(bytes, entry.getKey(), 4);
            number(bytes, entry.getValue(), 4);
        }
        bytes.add(check(bytes));
        written = bytes;
        return bytes.size();
    }

    private static void number(List<Integer> bytes, long number, int length) {
        for (int i = length - 1; i >= 0; i--) {
            bytes.add((int) (number >>> 8 * i & 255));
        }
    }

    static int check(List<Integer> bytes) {
        int c = 7;
        for (int one : bytes) {
            c = (5 * c + one) % 253;
        }
        return c;
    }

    int octet(int i) {
        return i < 0 || i >= written.size() ? NONE : written.get(i);
    }

    private static long told(List<Integer> bytes, int from, int length) {
        long number = 0;
        for (int i = 0; i < length; i++) {
            number = number << 8 | bytes.get(from + i);
        }
        return number;
    }

    int back(int t) {
        if (t < 0 || t > 3) {
            return -2;
        }
        List<Integer> bytes = new ArrayList<>(tape);
        tape.clear();
        if (bytes.size() < 14 || bytes.size() != 14 + 8 * bytes.get(12) || bytes.get(12) > 160) {
            return NONE;
        }
        int last = bytes.remove(bytes.size() - 1);
        if (last != check(bytes)) {
            return NONE;
        }
        TreeMap<Integer, Integer> map = new TreeMap<>();
        long before = -1;
        for (int k = 0; k < bytes.get(12); k++) {
            long key = told(bytes, 13 + 8 * k, 4);
            if (!isKey(key) || key <= before) {
                return NONE;
            }
            before = key;
            map.put((int) key, (int) told(bytes, 17 + 8 * k, 4));
        }
        Table table = new Table();
        table.bound = bytes.get(0);
        table.spread = (int) told(bytes, 1, 2);
        table.growth = bytes.get(3);
        if (table.bound < 8 || table.bound > 64 || table.spread < 25 || table.spread > 400 || table.growth > 200) {
            return NONE;
        }
        table.source = new Source(told(bytes, 4, 8));
        table.map = map;
        table.buildAll();
        tables[t] = table;
        return map.size();
    }

    int copy(int t, int other) {
        if (t < 0 || t > 3 || at(other) == null || t == other) {
            return -2;
        }
        tables[t] = at(other).twin();
        return 1;
    }

    int count(int what) {
        int made = 0;
        int keys = 0;
        for (Table table : tables) {
            made += table == null ? 0 : 1;
            keys += table == null ? 0 : table.map.size();
        }
        return what < 0 || what > 2 ? NONE : new int[] {made, keys, tape.size()}[what];
    }
}
