/** Tables of two levels without clashes, as ../shared/DOC.md promises them. */
public final class ClashFree {
    public static final int NONE = -1;
    public static final long NOTHING = -1000000000000000L;

    private static final int CANNOT = -2;
    private static final int FULL = -3;

    // What a PUT tells.
    private static final int REPLACED = 0;
    private static final int LAID = 1;
    private static final int BUCKET_BUILT = 2;
    private static final int BUCKET_RAISED = 3;
    private static final int ALL_BUILT = 4;

    private static final int P = 2147483647;
    private static final long DRAW_TIMES = 6364136223846793005L;
    private static final long DRAW_AND = 1442695040888963407L;
    private static final int MOST_TABLES = 4;
    private static final int MOST_KEYS = 160;
    // The power of two from which halving steps find any place among 160.
    private static final int HALF_OF_KEYS = 128;
    private static final int MOST_BUCKETS = 2048;
    private static final int MOST_OUTER = 400;
    private static final int OUTER_AT_ONCE = 20;
    private static final int MOST_FROZEN = 1000;
    private static final int MOST_ON_PAPER = 200;
    private static final int MOST_TAPE = 1400;

    // The document tells no bound for a BUCKET's PAIRS; half of them or more are good, so none comes near this.
    private static final int MOST_INNER = 1000000;

    // An image: what stands ahead of its KEYS, each KEY with its VALUE, the check behind them.
    private static final int IMAGE_HEAD = 13;
    private static final int IMAGE_PART = 8;
    private static final int IMAGE_CHECK = 1;
    private static final int MOST_IMAGE = IMAGE_HEAD + IMAGE_PART * MOST_KEYS + IMAGE_CHECK;

    private static final int MOST_TEXT = 600;
    private static final int MOST_STEPS = 300;
    private static final int MOST_ROUNDS = 200;
    private static final int MOST_DIGITS = 6;
    private static final int MOST_BLOCKS = 5;
    private static final int MOST_PARENS = 8;
    private static final int MOST_OPERANDS = 64;
    // 300 rounds of a text of 600 bytes are 180000 moves at most.
    private static final int MOST_MOVES = 1000000;

    // Kinds of tokens; a sign's kind is its byte, so these stay below the least sign's (37).
    private static final int TEXT_END = 0;
    private static final int BAD = 1;
    private static final int NUMBER = 2;
    private static final int PUT = 3;
    private static final int AS = 4;
    private static final int DROP = 5;
    private static final int GET = 6;
    private static final int LET = 7;
    private static final int FOR = 8;
    private static final int IF = 9;
    private static final int ROUND = 10;
    private static final int LATEST = 11;

    // What a text may go on with.
    private static final int AT_STATEMENT = 0;
    private static final int AT_UNIT = 1;
    private static final int BEHIND_UNIT = 2;
    private static final int AT_ROUNDS = 3;
    private static final int AT_OPENING = 4;
    private static final int BEHIND_BLOCK = 5;
    private static final int READ = 6;

    private final Table[] tables;
    private final int[] tape;
    private int taped;
    private final Paper paper;
    private final Image written;
    private final Parser parser;
    private final Machine machine;

    public ClashFree() {
        tables = new Table[MOST_TABLES];
        tape = new int[MOST_TAPE];
        taped = 0;
        paper = new Paper();
        written = new Image();
        parser = new Parser();
        machine = new Machine();
    }

    // ---- the tape

    public int feed(int a, int b, int c, int d, int e) {
        if (taped + 20 > MOST_TAPE) {
            return NONE;
        }
        writeInt(tape, taped, a);
        writeInt(tape, taped + 4, b);
        writeInt(tape, taped + 8, c);
        writeInt(tape, taped + 12, d);
        writeInt(tape, taped + 16, e);
        taped += 20;
        return taped;
    }

    public boolean end(int n) {
        if (n < 0 || n > taped) {
            return false;
        }
        taped = n;
        return true;
    }

    // ---- tables

    public int make(int t, int bound, int spread, int growth, long s) {
        if (!isTableNumber(t) || !areSettings(bound, spread, growth)) {
            return CANNOT;
        }
        Table table = slot(t);
        table.begin(bound, spread, growth, s);
        table.buildAll();
        return 1;
    }

    public int put(int t, int key, int value) {
        Table table = tableAt(t);
        if (table == null || !isKey(key)) {
            return CANNOT;
        }
        if (table.isFullFor(key)) {
            return FULL;
        }
        table.countReads(key);
        return table.lay(key, value);
    }

    public long get(int t, int key) {
        Table table = tableAt(t);
        if (table == null || !isKey(key)) {
            return NOTHING;
        }
        table.countReads(key);
        int at = table.keys.find(key);
        return at < 0 ? NOTHING : table.keys.valueAt(at);
    }

    public int drop(int t, int key) {
        Table table = tableAt(t);
        if (table == null || !isKey(key)) {
            return CANNOT;
        }
        table.countReads(key);
        return table.take(key);
    }

    public int build(int t) {
        Table table = tableAt(t);
        if (table == null) {
            return CANNOT;
        }
        int before = table.draw.pairs;
        table.buildAll();
        table.allBuilt++;
        return table.draw.pairs - before;
    }

    public long has(int t, int what) {
        Table table = tableAt(t);
        if (table == null) {
            return NOTHING;
        }
        switch (what) {
            case 0: return table.keys.size;
            case 1: return table.limit;
            case 2: return table.count;
            case 3: return table.layout.buckets;
            case 4: return table.layout.sum;
            case 5: return table.mostRooms();
            case 6: return table.layout.a;
            case 7: return table.layout.b;
            case 8: return table.reads;
            case 9: return table.draw.pairs;
            case 10: return table.bucketsBuilt;
            case 11: return table.allBuilt;
            case 12: return table.laid;
            case 13: return table.draw.s;
            case 14: return table.bound;
            case 15: return table.spread;
            case 16: return table.growth;
            default: return NOTHING;
        }
    }

    public long bucket(int t, int j, int what) {
        Table table = tableAt(t);
        if (table == null || !table.layout.isBucket(j)) {
            return NOTHING;
        }
        Layout layout = table.layout;
        switch (what) {
            case 0: return layout.held[j];
            case 1: return layout.roof[j];
            case 2: return layout.roof[j] == 0 ? NONE : layout.pairA[j];
            case 3: return layout.roof[j] == 0 ? NONE : layout.pairB[j];
            default: return NOTHING;
        }
    }

    public int room(int t, int j, int i) {
        Table table = tableAt(t);
        if (table == null || !table.layout.isBucket(j)) {
            return CANNOT;
        }
        if (i < 0 || i >= table.layout.roomsOf(j)) {
            return CANNOT;
        }
        int at = table.layout.tenant(j, i);
        return at < 0 ? NONE : table.keys.keyAt(at);
    }

    public int place(int t, int key, int what) {
        Table table = tableAt(t);
        if (table == null || !isKey(key) || what < 0 || what > 1) {
            return CANNOT;
        }
        int j = table.layout.homeOf(key);
        return what == 0 ? j : table.layout.roomOf(key, j);
    }

    public int key(int t, int k) {
        Table table = tableAt(t);
        if (table == null || k < 0 || k >= table.keys.size) {
            return NONE;
        }
        return table.keys.keyAt(k);
    }

    public int walk(int t, int k) {
        Table table = tableAt(t);
        if (table == null || k < 0 || k >= table.keys.size) {
            return NONE;
        }
        int at = table.layout.nthByRooms(k);
        return at < 0 ? NONE : table.keys.keyAt(at);
    }

    public int below(int t, int key) {
        Table table = tableAt(t);
        if (table == null || key < 0) {
            return NONE;
        }
        return table.keys.rank(key);
    }

    public int nearest(int t, int key) {
        Table table = tableAt(t);
        if (table == null || !isKey(key)) {
            return NONE;
        }
        return table.keys.closest(key);
    }

    // ---- how well it is

    public int many(int t, int n) {
        Table table = tableAt(t);
        if (table == null || n < 0) {
            return NONE;
        }
        return table.layout.bucketsWith(n);
    }

    public int crowd(int t, int what) {
        Table table = tableAt(t);
        if (table == null) {
            return NONE;
        }
        Layout layout = table.layout;
        switch (what) {
            case 0: return layout.fullest();
            case 1: return layout.held[layout.fullest()];
            case 2: return table.keys.size - layout.bucketsWith(1);
            case 3: return layout.twos();
            default: return NONE;
        }
    }

    public int empty(int t) {
        Table table = tableAt(t);
        return table == null ? NONE : table.layout.sum - table.keys.size;
    }

    public int left(int t) {
        Table table = tableAt(t);
        return table == null ? NONE : table.limit - table.count + 1;
    }

    // ---- on paper

    public long outer(int t, int a, int b, int n, int what) {
        Table table = tableAt(t);
        if (table == null || !isPair(a, b) || n < 1 || n > MOST_BUCKETS || what < 0 || what > 3) {
            return NOTHING;
        }
        return paper.dealt(table.keys, a, b, n, what);
    }

    public long best(int t, int n, long s, int what) {
        Table table = tableAt(t);
        if (table == null || n < 1 || n > MOST_ON_PAPER || what < 0 || what > 2) {
            return NOTHING;
        }
        return paper.leastSum(table, n, s, what);
    }

    public int inner(int t, int j, int a, int b) {
        Table table = tableAt(t);
        if (table == null || table.layout.roomsOf(j) == 0 || !isPair(a, b)) {
            return NONE;
        }
        return paper.clashes(table, j, a, b);
    }

    public int tries(int t, int j, int n, long s, int what) {
        Table table = tableAt(t);
        if (table == null || table.layout.roomsOf(j) == 0 || n < 1 || n > MOST_ON_PAPER || what < 0 || what > 1) {
            return CANNOT;
        }
        return paper.tried(table, j, n, s, what);
    }

    public int would(int t, int key) {
        Table table = tableAt(t);
        if (table == null || !isKey(key)) {
            return CANNOT;
        }
        return table.isFullFor(key) ? FULL : table.foretell(key);
    }

    public long frozen(int t, long s, int what) {
        Table table = tableAt(t);
        if (table == null || what < 0 || what > 4) {
            return NOTHING;
        }
        if (!paper.freeze(table.keys, s)) {
            return CANNOT;
        }
        switch (what) {
            case 0: return paper.layout.sum;
            case 1: return paper.outerPairs;
            case 2: return paper.draw.pairs - paper.outerPairs;
            case 3: return paper.edgeRoom(false);
            default: return paper.edgeRoom(true);
        }
    }

    public int frozenAt(int t, long s, int key) {
        Table table = tableAt(t);
        if (table == null) {
            return NONE;
        }
        int at = table.keys.find(key);
        if (at < 0) {
            return NONE;
        }
        return paper.freeze(table.keys, s) ? paper.layout.roomOfAll(at) : CANNOT;
    }

    // ---- sets

    public int shared(int t, int other, int what) {
        Table one = tableAt(t);
        Table two = tableAt(other);
        if (one == null || two == null) {
            return NONE;
        }
        int both = one.keys.sharedWith(two.keys, false);
        switch (what) {
            case 0: return both;
            case 1: return one.keys.size + two.keys.size - both;
            case 2: return one.keys.size - both;
            case 3: return one.keys.sharedWith(two.keys, true);
            default: return NONE;
        }
    }

    public int join(int t, int other) {
        Table one = tableAt(t);
        Table two = tableAt(other);
        if (one == null || two == null || t == other) {
            return CANNOT;
        }
        int came = 0;
        for (int k = 0; k < two.keys.size; k++) {
            int key = two.keys.keyAt(k);
            if (one.isFullFor(key)) {
                break;
            }
            if (one.lay(key, two.keys.valueAt(k)) != REPLACED) {
                came++;
            }
        }
        return came;
    }

    public int cut(int t, int other, boolean has) {
        Table one = tableAt(t);
        Table two = tableAt(other);
        if (one == null || two == null || t == other) {
            return CANNOT;
        }
        int went = 0;
        int stayed = 0;
        for (int n = one.keys.size; n > 0; n--) {
            int key = one.keys.keyAt(stayed);
            if ((two.keys.find(key) >= 0) == has) {
                one.take(key);
                went++;
            } else {
                stayed++;
            }
        }
        return went;
    }

    public long values(int t, int what) {
        Table table = tableAt(t);
        if (table == null) {
            return NOTHING;
        }
        int at = table.keys.greatest();
        switch (what) {
            case 0: return at < 0 ? NONE : table.keys.keyAt(at);
            case 1: return at < 0 ? NOTHING : table.keys.valueAt(at);
            case 2: return table.keys.valueSum();
            default: return NOTHING;
        }
    }

    // ---- programs

    public int run(int t) {
        Table table = tableAt(t);
        if (table == null) {
            return CANNOT;
        }
        parser.parse(tape, taped);
        taped = 0;
        machine.begin();
        if (parser.fault != 0) {
            return NONE;
        }
        machine.work(parser.program, table);
        return machine.steps;
    }

    public long ran(int what) {
        boolean faulty = parser.fault != 0;
        switch (what) {
            case 0: return parser.fault;
            case 1: return faulty ? parser.faultPlace : NONE;
            case 2: return faulty ? parser.faultDepth : NONE;
            case 3: return machine.refused;
            case 4: return machine.latest;
            case 5: return machine.ended ? 1 : 0;
            default: return NOTHING;
        }
    }

    // ---- images

    public int image(int t) {
        Table table = tableAt(t);
        if (table == null) {
            return NONE;
        }
        written.write(table);
        return written.length;
    }

    public int octet(int i) {
        return i < 0 || i >= written.length ? NONE : written.bytes[i];
    }

    public int back(int t) {
        if (!isTableNumber(t)) {
            return CANNOT;
        }
        int length = taped;
        taped = 0;
        if (!isImage(tape, length)) {
            return NONE;
        }
        Table table = slot(t);
        table.begin(tape[0], spreadOf(tape), tape[3], readLong(tape, 4));
        int size = tape[12];
        for (int k = 0; k < size; k++) {
            int from = IMAGE_HEAD + IMAGE_PART * k;
            table.keys.insert(k, readInt(tape, from), readInt(tape, from + 4));
        }
        table.buildAll();
        return size;
    }

    public int copy(int t, int other) {
        Table two = tableAt(other);
        if (!isTableNumber(t) || two == null || t == other) {
            return CANNOT;
        }
        slot(t).become(two);
        return 1;
    }

    public int count(int what) {
        switch (what) {
            case 0: return countTables();
            case 1: return countKeys();
            case 2: return taped;
            default: return NONE;
        }
    }

    private int countTables() {
        int n = 0;
        for (int t = 0; t < MOST_TABLES; t++) {
            if (tables[t] != null) {
                n++;
            }
        }
        return n;
    }

    private int countKeys() {
        int n = 0;
        for (int t = 0; t < MOST_TABLES; t++) {
            if (tables[t] != null) {
                n += tables[t].keys.size;
            }
        }
        return n;
    }

    private Table tableAt(int t) {
        return isTableNumber(t) ? tables[t] : null;
    }

    // A TABLE never goes once it is made, so its rows are made once and used again.
    private Table slot(int t) {
        Table table = tables[t];
        if (table == null) {
            table = new Table();
            tables[t] = table;
        }
        return table;
    }

    private static boolean isTableNumber(int t) {
        return t >= 0 && t < MOST_TABLES;
    }

    private static boolean isKey(int key) {
        return key >= 0 && key < P;
    }

    private static boolean isPair(int a, int b) {
        return a >= 1 && a < P && b >= 0 && b < P;
    }

    private static boolean areSettings(int bound, int spread, int growth) {
        return bound >= 8 && bound <= 64 && spread >= 25 && spread <= 400 && growth >= 0 && growth <= 200;
    }

    /** The PLACE of a KEY by a PAIR among n. */
    private static int spot(int a, int b, int key, int n) {
        if (n < 1) {
            return NONE;
        }
        return (int) (((long) a * key + b) % P % n);
    }

    private static void writeInt(int[] bytes, int from, int number) {
        if (from < 0 || from + 4 > bytes.length) {
            return;
        }
        for (int i = 0; i < 4; i++) {
            bytes[from + i] = (number >>> (24 - 8 * i)) & 255;
        }
    }

    private static int readInt(int[] bytes, int from) {
        if (from < 0 || from + 4 > bytes.length) {
            return 0;
        }
        int number = 0;
        for (int i = 0; i < 4; i++) {
            number = number << 8 | bytes[from + i];
        }
        return number;
    }

    private static long readLong(int[] bytes, int from) {
        return (long) readInt(bytes, from) << 32 | readInt(bytes, from + 4) & 4294967295L;
    }

    private static int spreadOf(int[] bytes) {
        return bytes[1] << 8 | bytes[2];
    }

    private static int checkOf(int[] bytes, int length) {
        int c = 7;
        for (int i = 0; i < length && i < bytes.length; i++) {
            c = (5 * c + bytes[i]) % 253;
        }
        return c;
    }

    private static boolean isImage(int[] bytes, int length) {
        if (length < IMAGE_HEAD + IMAGE_CHECK || length > bytes.length) {
            return false;
        }
        int size = bytes[12];
        if (size > MOST_KEYS || length != IMAGE_HEAD + IMAGE_PART * size + IMAGE_CHECK) {
            return false;
        }
        if (!areSettings(bytes[0], spreadOf(bytes), bytes[3])) {
            return false;
        }
        int before = NONE;
        for (int k = 0; k < size; k++) {
            int key = readInt(bytes, IMAGE_HEAD + IMAGE_PART * k);
            if (!isKey(key) || key <= before) {
                return false;
            }
            before = key;
        }
        return bytes[length - 1] == checkOf(bytes, length - 1);
    }

    /** A number s with the PAIRS that are drawn by it. */
    private static final class Draw {
        long s;
        int a;
        int b;
        int pairs;

        void begin(long first) {
            s = first;
            pairs = 0;
        }

        void pair() {
            s = s * DRAW_TIMES + DRAW_AND;
            a = 1 + (int) ((s >>> 33) % (P - 1));
            s = s * DRAW_TIMES + DRAW_AND;
            b = (int) ((s >>> 33) % P);
            pairs++;
        }
    }

    /** KEYS, rising, each with its VALUE. */
    private static final class Keys {
        int size;
        final int[] keys;
        final int[] values;

        Keys() {
            keys = new int[MOST_KEYS];
            values = new int[MOST_KEYS];
        }

        int keyAt(int at) {
            return at < 0 || at >= size ? NONE : keys[at];
        }

        int valueAt(int at) {
            return at < 0 || at >= size ? 0 : values[at];
        }

        /** How many KEYS are below a number. */
        int rank(int number) {
            int below = 0;
            for (int step = HALF_OF_KEYS; step > 0; step /= 2) {
                if (below + step <= size && keys[below + step - 1] < number) {
                    below += step;
                }
            }
            return below;
        }

        int find(int key) {
            int at = rank(key);
            return at < size && keys[at] == key ? at : NONE;
        }

        int closest(int number) {
            int at = rank(number);
            if (at == size) {
                return keyAt(size - 1);
            }
            if (at == 0) {
                return keys[0];
            }
            return number - keys[at - 1] <= keys[at] - number ? keys[at - 1] : keys[at];
        }

        void insert(int at, int key, int value) {
            if (at < 0 || at > size || size >= MOST_KEYS) {
                return;
            }
            System.arraycopy(keys, at, keys, at + 1, size - at);
            System.arraycopy(values, at, values, at + 1, size - at);
            keys[at] = key;
            values[at] = value;
            size++;
        }

        void remove(int at) {
            if (at < 0 || at >= size) {
                return;
            }
            System.arraycopy(keys, at + 1, keys, at, size - at - 1);
            System.arraycopy(values, at + 1, values, at, size - at - 1);
            size--;
        }

        int sharedWith(Keys other, boolean alike) {
            int n = 0;
            for (int k = 0; k < size; k++) {
                int at = other.find(keys[k]);
                if (at >= 0 && (!alike || other.values[at] == values[k])) {
                    n++;
                }
            }
            return n;
        }

        int greatest() {
            int at = NONE;
            for (int k = 0; k < size; k++) {
                if (at < 0 || values[k] > values[at]) {
                    at = k;
                }
            }
            return at;
        }

        long valueSum() {
            long sum = 0;
            for (int k = 0; k < size; k++) {
                sum += values[k];
            }
            return sum;
        }

        void become(Keys other) {
            size = other.size;
            System.arraycopy(other.keys, 0, keys, 0, size);
            System.arraycopy(other.values, 0, values, 0, size);
        }
    }

    /** KEYS dealt to BUCKETS and ROOMS: where the k-th of them lies. ROOMS have no rows of their own, for there may be 102400. */
    private static final class Layout {
        int buckets;
        int a;
        int b;
        int sum;
        // held[j] is how many of home[0] .. home[size - 1] are j, 0 for all that are no BUCKETS.
        int size;
        final int[] held;
        final int[] roof;
        final int[] pairA;
        final int[] pairB;
        final int[] home;
        final int[] lies;
        final int[] order;
        final int[] next;

        Layout() {
            held = new int[MOST_BUCKETS];
            roof = new int[MOST_BUCKETS];
            pairA = new int[MOST_BUCKETS];
            pairB = new int[MOST_BUCKETS];
            next = new int[MOST_BUCKETS];
            home = new int[MOST_KEYS];
            lies = new int[MOST_KEYS];
            order = new int[MOST_KEYS];
        }

        boolean isBucket(int j) {
            return j >= 0 && j < buckets;
        }

        int roomsOf(int j) {
            return j < 0 || j >= buckets ? 0 : roof[j] * roof[j];
        }

        int homeOf(int key) {
            return spot(a, b, key, buckets);
        }

        int roomOf(int key, int j) {
            int rooms = roomsOf(j);
            return rooms == 0 ? NONE : spot(pairA[j], pairB[j], key, rooms);
        }

        /** Which of the KEYS lies in a ROOM. */
        int tenant(int j, int room) {
            for (int k = 0; k < size; k++) {
                if (home[k] == j && lies[k] == room) {
                    return k;
                }
            }
            return NONE;
        }

        /** Which of the KEYS is the n-th by BUCKETS, then ROOMS. */
        int nthByRooms(int n) {
            int j = 0;
            int within = n;
            while (j < buckets && within >= held[j]) {
                within -= held[j];
                j++;
            }
            int members = gather(j);
            for (int m = 0; m < members; m++) {
                int ahead = 0;
                for (int other = 0; other < members; other++) {
                    if (lies[order[other]] < lies[order[m]]) {
                        ahead++;
                    }
                }
                if (ahead == within) {
                    return order[m];
                }
            }
            return NONE;
        }

        int bucketsWith(int n) {
            int found = 0;
            for (int j = 0; j < buckets; j++) {
                if (held[j] == n) {
                    found++;
                }
            }
            return found;
        }

        int fullest() {
            int most = 0;
            for (int j = 1; j < buckets; j++) {
                if (held[j] > held[most]) {
                    most = j;
                }
            }
            return most;
        }

        int twos() {
            int found = 0;
            for (int j = 0; j < buckets; j++) {
                found += held[j] * (held[j] - 1) / 2;
            }
            return found;
        }

        private void sweep() {
            for (int k = 0; k < size; k++) {
                held[home[k]] = 0;
            }
        }

        /** The KEYS are dealt to n BUCKETS; tells the sum of the squares of what each has. ROOFS and ROOMS are not yet theirs. */
        int deal(Keys keys, int outerA, int outerB, int n) {
            sweep();
            buckets = Math.max(1, Math.min(MOST_BUCKETS, n));
            a = outerA;
            b = outerB;
            size = keys.size;
            int squares = 0;
            for (int k = 0; k < size; k++) {
                int j = spot(a, b, keys.keys[k], buckets);
                home[k] = j;
                squares += 2 * held[j] + 1;
                held[j]++;
            }
            return squares;
        }

        /** ROOFS are so many times what was dealt; the order has the KEYS of BUCKET j next ahead of next[j]. */
        void settle(int times) {
            sum = 0;
            int from = 0;
            for (int j = 0; j < buckets; j++) {
                roof[j] = times * held[j];
                sum += roof[j] * roof[j];
                next[j] = from;
                from += held[j];
            }
            for (int k = 0; k < size; k++) {
                int j = home[k];
                order[next[j]] = k;
                next[j]++;
            }
        }

        /** The order has the KEYS of a BUCKET first; tells how many. */
        int gather(int j) {
            int n = 0;
            for (int k = 0; k < size; k++) {
                if (home[k] == j) {
                    order[n] = k;
                    n++;
                }
            }
            return n;
        }

        /** A BUCKET is BUILT whose KEYS the order has next ahead of a place. */
        void buildBucket(Keys keys, Draw draw, int j, int to) {
            int rooms = roomsOf(j);
            if (rooms == 0 || to > size) {
                return;
            }
            int from = to - held[j];
            boolean clash = from >= 0;
            for (int n = 0; n < MOST_INNER && clash; n++) {
                draw.pair();
                pairA[j] = draw.a;
                pairB[j] = draw.b;
                clash = false;
                for (int m = from; m < to && !clash; m++) {
                    int room = spot(draw.a, draw.b, keys.keys[order[m]], rooms);
                    lies[order[m]] = room;
                    for (int other = from; other < m; other++) {
                        clash = clash || lies[order[other]] == room;
                    }
                }
            }
        }

        int raised(int j) {
            return roof[j] == 0 ? 2 : 2 * roof[j];
        }

        void raise(int j) {
            int higher = raised(j);
            sum += higher * higher - roof[j] * roof[j];
            roof[j] = higher;
        }

        /** A KEY of a BUCKET comes as the at-th, not yet in a ROOM. */
        void insert(int at, int j) {
            if (at < 0 || at > size || size >= MOST_KEYS || !isBucket(j)) {
                return;
            }
            System.arraycopy(home, at, home, at + 1, size - at);
            System.arraycopy(lies, at, lies, at + 1, size - at);
            home[at] = j;
            lies[at] = NONE;
            held[j]++;
            size++;
        }

        /** The at-th KEY goes. */
        void remove(int at) {
            if (at < 0 || at >= size) {
                return;
            }
            held[home[at]]--;
            size--;
            System.arraycopy(home, at + 1, home, at, size - at);
            System.arraycopy(lies, at + 1, lies, at, size - at);
        }

        /** The ROOM of the k-th KEY, as ROOMS are counted through all BUCKETS. */
        int roomOfAll(int k) {
            if (k < 0 || k >= size) {
                return NONE;
            }
            int room = lies[k];
            for (int j = 0; j < home[k]; j++) {
                room += roof[j] * roof[j];
            }
            return room;
        }

        void become(Layout other) {
            sweep();
            buckets = other.buckets;
            a = other.a;
            b = other.b;
            sum = other.sum;
            size = other.size;
            System.arraycopy(other.held, 0, held, 0, buckets);
            System.arraycopy(other.roof, 0, roof, 0, buckets);
            System.arraycopy(other.pairA, 0, pairA, 0, buckets);
            System.arraycopy(other.pairB, 0, pairB, 0, buckets);
            System.arraycopy(other.home, 0, home, 0, size);
            System.arraycopy(other.lies, 0, lies, 0, size);
        }
    }

    /** A TABLE with what is counted for it; its draw counts the PAIRS. */
    private static final class Table {
        int bound;
        int spread;
        int growth;
        int limit;
        int count;
        int reads;
        int bucketsBuilt;
        int allBuilt;
        int laid;
        final Draw draw;
        final Keys keys;
        final Layout layout;

        Table() {
            draw = new Draw();
            keys = new Keys();
            layout = new Layout();
        }

        /** Made, but without KEYS and not yet BUILT. */
        void begin(int newBound, int newSpread, int newGrowth, long s) {
            bound = newBound;
            spread = newSpread;
            growth = newGrowth;
            reads = 0;
            bucketsBuilt = 0;
            allBuilt = 0;
            laid = 0;
            draw.begin(s);
            keys.size = 0;
        }

        int mostRooms() {
            return bound * limit;
        }

        /** ALL is BUILT; how often is counted where it is called, for as a TABLE is made it is not. */
        void buildAll() {
            limit = keys.size + keys.size * growth / 100 + 4;
            count = keys.size;
            laid += keys.size;
            int n = Math.max(1, spread * limit / 100);
            for (int tried = 1; tried <= MOST_OUTER; tried++) {
                draw.pair();
                int squares = layout.deal(keys, draw.a, draw.b, n);
                if (4 * squares <= mostRooms()) {
                    break;
                }
                if (tried % OUTER_AT_ONCE == 0) {
                    n = Math.min(MOST_BUCKETS, 2 * n);
                }
            }
            layout.settle(2);
            for (int j = 0; j < layout.buckets; j++) {
                layout.buildBucket(keys, draw, j, layout.next[j]);
            }
        }

        void countReads(int key) {
            reads += layout.roomsOf(layout.homeOf(key)) > 0 ? 2 : 1;
        }

        boolean isFullFor(int key) {
            return keys.size >= MOST_KEYS && keys.find(key) < 0;
        }

        /** What a PUT of a KEY tells. */
        int foretell(int key) {
            if (keys.find(key) >= 0) {
                return REPLACED;
            }
            int j = layout.homeOf(key);
            if (count + 1 > limit || !layout.isBucket(j)) {
                return ALL_BUILT;
            }
            if (layout.held[j] < layout.roof[j]) {
                return layout.tenant(j, layout.roomOf(key, j)) < 0 ? LAID : BUCKET_BUILT;
            }
            int higher = layout.raised(j);
            int sum = layout.sum - layout.roomsOf(j) + higher * higher;
            return sum <= mostRooms() ? BUCKET_RAISED : ALL_BUILT;
        }

        /** PUT, where the KEY is there or there are not yet 160. */
        int lay(int key, int value) {
            int told = foretell(key);
            int at = keys.rank(key);
            if (told == REPLACED) {
                keys.values[at] = value;
                return told;
            }
            int j = layout.homeOf(key);
            layout.insert(at, j);
            keys.insert(at, key, value);
            count++;
            if (told == ALL_BUILT) {
                buildAll();
                allBuilt++;
            } else if (told == LAID) {
                layout.lies[at] = layout.roomOf(key, j);
            } else {
                if (told == BUCKET_RAISED) {
                    layout.raise(j);
                }
                layout.buildBucket(keys, draw, j, layout.gather(j));
                bucketsBuilt++;
                laid += layout.held[j];
            }
            return told;
        }

        /** DROP. */
        int take(int key) {
            int at = keys.find(key);
            if (at < 0) {
                return NONE;
            }
            layout.remove(at);
            keys.remove(at);
            count++;
            if (count > limit) {
                buildAll();
                allBuilt++;
                return 2;
            }
            return 1;
        }

        void become(Table other) {
            begin(other.bound, other.spread, other.growth, other.draw.s);
            limit = other.limit;
            count = other.count;
            reads = other.reads;
            bucketsBuilt = other.bucketsBuilt;
            allBuilt = other.allBuilt;
            laid = other.laid;
            draw.pairs = other.draw.pairs;
            keys.become(other.keys);
            layout.become(other.layout);
        }
    }

    /** What is tried with told PAIRS and told numbers s; no TABLE is changed by it. */
    private static final class Paper {
        final Draw draw;
        final Layout layout;
        int outerPairs;

        Paper() {
            draw = new Draw();
            layout = new Layout();
        }

        /** outer(). */
        int dealt(Keys keys, int a, int b, int n, int what) {
            int squares = layout.deal(keys, a, b, n);
            switch (what) {
                case 0: return 4 * squares;
                case 1: return squares;
                case 2: return layout.held[layout.fullest()];
                default: return layout.bucketsWith(0);
            }
        }

        /** best(). */
        int leastSum(Table table, int n, long s, int what) {
            draw.begin(s);
            int first = 0;
            int least = 0;
            int within = 0;
            for (int k = 0; k < n; k++) {
                draw.pair();
                int sum = 4 * layout.deal(table.keys, draw.a, draw.b, table.layout.buckets);
                if (k == 0 || sum < least) {
                    first = k;
                    least = sum;
                }
                if (sum <= table.mostRooms()) {
                    within++;
                }
            }
            switch (what) {
                case 0: return first;
                case 1: return least;
                default: return within;
            }
        }

        /** inner(). */
        int clashes(Table table, int j, int a, int b) {
            int members = table.layout.gather(j);
            return clashesOf(table, members, table.layout.roomsOf(j), a, b);
        }

        // The members come first in the table's order; this layout's row takes the ROOMS that they would have.
        private int clashesOf(Table table, int members, int rooms, int a, int b) {
            int clashes = 0;
            for (int m = 0; m < members; m++) {
                int room = spot(a, b, table.keys.keyAt(table.layout.order[m]), rooms);
                layout.lies[m] = room;
                for (int other = 0; other < m; other++) {
                    if (layout.lies[other] == room) {
                        clashes++;
                    }
                }
            }
            return clashes;
        }

        /** tries(). */
        int tried(Table table, int j, int n, long s, int what) {
            int members = table.layout.gather(j);
            int rooms = table.layout.roomsOf(j);
            int first = NONE;
            int good = 0;
            draw.begin(s);
            for (int k = 0; k < n; k++) {
                draw.pair();
                if (clashesOf(table, members, rooms, draw.a, draw.b) == 0) {
                    good++;
                    if (first < 0) {
                        first = k;
                    }
                }
            }
            return what == 0 ? first : good;
        }

        /** The layout becomes the FROZEN TABLE of the KEYS; false: not by 1000 PAIRS. */
        boolean freeze(Keys keys, long s) {
            int n = Math.max(1, keys.size);
            boolean within = false;
            draw.begin(s);
            for (int tried = 0; tried < MOST_FROZEN && !within; tried++) {
                draw.pair();
                within = layout.deal(keys, draw.a, draw.b, n) <= 3 * keys.size;
            }
            if (!within) {
                return false;
            }
            outerPairs = draw.pairs;
            layout.settle(1);
            for (int j = 0; j < n; j++) {
                layout.buildBucket(keys, draw, j, layout.next[j]);
            }
            return true;
        }

        /** The least or the last ROOM of all that has a KEY. */
        int edgeRoom(boolean last) {
            int edge = NONE;
            for (int k = 0; k < layout.size; k++) {
                int room = layout.roomOfAll(k);
                if (edge < 0 || (room > edge) == last) {
                    edge = room;
                }
            }
            return edge;
        }
    }

    /** The latest image(). */
    private static final class Image {
        int length;
        final int[] bytes;

        Image() {
            bytes = new int[MOST_IMAGE];
        }

        void write(Table table) {
            Keys keys = table.keys;
            bytes[0] = table.bound;
            bytes[1] = table.spread >>> 8;
            bytes[2] = table.spread & 255;
            bytes[3] = table.growth;
            writeInt(bytes, 4, (int) (table.draw.s >>> 32));
            writeInt(bytes, 8, (int) table.draw.s);
            bytes[12] = keys.size;
            for (int k = 0; k < keys.size; k++) {
                int from = IMAGE_HEAD + IMAGE_PART * k;
                writeInt(bytes, from, keys.keyAt(k));
                writeInt(bytes, from + 4, keys.valueAt(k));
            }
            int check = IMAGE_HEAD + IMAGE_PART * keys.size;
            bytes[check] = checkOf(bytes, check);
            length = check + IMAGE_CHECK;
        }
    }

    /** Tokens of a text, one at a time. */
    private static final class Scanner {
        int[] text;
        int length;
        int at;
        int behind;
        int kind;
        int number;
        boolean wordy;

        void begin(int[] newText, int newLength) {
            text = newText;
            length = Math.min(newLength, newText.length);
            at = 0;
            behind = 0;
            kind = BAD;
            wordy = false;
        }

        private int byteAt(int i) {
            return i >= 0 && i < length ? text[i] : NONE;
        }

        private static boolean isDigit(int c) {
            return c >= '0' && c <= '9';
        }

        private static boolean isLetter(int c) {
            return c >= 'a' && c <= 'z';
        }

        void advance() {
            boolean touches = wordy;
            int before = behind;
            at = behind;
            while (at < length && (text[at] == 10 || text[at] == 32)) {
                at++;
            }
            touches = touches && at == before;
            int c = byteAt(at);
            wordy = isDigit(c) || isLetter(c);
            if (isDigit(c)) {
                takeNumber();
            } else if (isLetter(c)) {
                takeWord();
            } else {
                takeSign(c);
            }
            if (wordy && touches) {
                kind = BAD;
            }
        }

        private void takeNumber() {
            number = 0;
            behind = at;
            while (behind < length && isDigit(text[behind])) {
                if (behind - at < MOST_DIGITS) {
                    number = 10 * number + text[behind] - '0';
                }
                behind++;
            }
            kind = behind - at > MOST_DIGITS ? BAD : NUMBER;
        }

        private void takeWord() {
            behind = at;
            while (behind < length && isLetter(text[behind])) {
                behind++;
            }
            kind = wordKind();
        }

        private int wordKind() {
            if (is("put")) {
                return PUT;
            }
            if (is("as")) {
                return AS;
            }
            if (is("drop")) {
                return DROP;
            }
            if (is("get")) {
                return GET;
            }
            if (is("let")) {
                return LET;
            }
            if (is("for")) {
                return FOR;
            }
            if (is("if")) {
                return IF;
            }
            if (is("i")) {
                return ROUND;
            }
            return is("x") ? LATEST : BAD;
        }

        private boolean is(String word) {
            if (behind - at != word.length()) {
                return false;
            }
            for (int i = 0; i < word.length(); i++) {
                if (byteAt(at + i) != word.charAt(i)) {
                    return false;
                }
            }
            return true;
        }

        private void takeSign(int c) {
            behind = at;
            if (c == NONE) {
                kind = TEXT_END;
                return;
            }
            behind++;
            switch (c) {
                case '+': case '-': case '*': case '/': case '%':
                case '(': case ')': case '[': case ']': case ';':
                    kind = c;
                    break;
                default:
                    kind = BAD;
                    break;
            }
        }
    }

    /** Moves of a PROGRAM, each a token's kind with a number and a link: of a for to its end, of an end to its for, of an if behind it. */
    private static final class Program {
        int size;
        final int[] kinds;
        final int[] numbers;
        final int[] links;

        Program() {
            kinds = new int[MOST_TEXT];
            numbers = new int[MOST_TEXT];
            links = new int[MOST_TEXT];
        }

        void add(int kind, int number) {
            if (size < MOST_TEXT) {
                kinds[size] = kind;
                numbers[size] = number;
                links[size] = 0;
                size++;
            }
        }

        void link(int from, int to) {
            if (from >= 0 && from < size) {
                links[from] = to;
            }
        }

        boolean isFor(int at) {
            return at >= 0 && at < size && kinds[at] == FOR;
        }
    }

    /** Reads a text from left to right: its FAULT, else its moves. */
    private static final class Parser {
        int fault;
        int faultPlace;
        int faultDepth;
        final Program program;
        private final Scanner scan;
        private int state;
        private int statement;
        private int began;
        private boolean heading;
        private int rounds;
        private int parens;
        private int blocks;
        private final int[] opened;
        private int waitingSize;
        private final int[] waiting;

        Parser() {
            program = new Program();
            scan = new Scanner();
            opened = new int[MOST_BLOCKS];
            waiting = new int[MOST_TEXT];
        }

        void parse(int[] text, int length) {
            fault = 0;
            program.size = 0;
            state = AT_STATEMENT;
            heading = false;
            parens = 0;
            blocks = 0;
            waitingSize = 0;
            if (length > MOST_TEXT) {
                note(1, MOST_TEXT);
                return;
            }
            scan.begin(text, length);
            for (int n = 0; n <= length && state != READ; n++) {
                scan.advance();
                accept(scan.kind);
                // Ahead of its [ a for or an if may still turn out to be a FAULT, whose place is before all in its head.
                if (fault != 0 && !heading) {
                    state = READ;
                }
            }
        }

        private void note(int newFault, int place) {
            if (fault == 0 || place < faultPlace || place == faultPlace && newFault < fault) {
                fault = newFault;
                faultPlace = place;
                faultDepth = blocks;
            }
        }

        private void refuse() {
            note(1, scan.at);
            heading = false;
        }

        private void accept(int kind) {
            switch (state) {
                case AT_STATEMENT:
                    acceptStatement(kind);
                    break;
                case AT_UNIT:
                    acceptUnit(kind);
                    break;
                case BEHIND_UNIT:
                    acceptBehindUnit(kind);
                    break;
                case AT_ROUNDS:
                    acceptRounds(kind);
                    break;
                case AT_OPENING:
                    acceptOpening(kind);
                    break;
                default:
                    acceptBehindBlock(kind);
                    break;
            }
        }

        private void acceptStatement(int kind) {
            began = scan.at;
            statement = kind;
            switch (kind) {
                case PUT: case DROP: case GET: case LET:
                    state = AT_UNIT;
                    break;
                case IF:
                    heading = true;
                    state = AT_UNIT;
                    break;
                case FOR:
                    heading = true;
                    state = AT_ROUNDS;
                    break;
                default:
                    acceptEnd(kind);
                    break;
            }
        }

        private void acceptEnd(int kind) {
            if (kind == ']' && blocks > 0) {
                close();
            } else if (kind == TEXT_END && blocks == 0) {
                state = READ;
            } else {
                refuse();
            }
        }

        private void acceptUnit(int kind) {
            switch (kind) {
                case NUMBER: case ROUND: case LATEST:
                    program.add(kind, scan.number);
                    state = BEHIND_UNIT;
                    break;
                case '(':
                    parens++;
                    if (parens > MOST_PARENS) {
                        note(3, scan.at);
                    }
                    await(kind);
                    break;
                default:
                    refuse();
                    break;
            }
        }

        private void acceptBehindUnit(int kind) {
            if (strength(kind) > 0) {
                release(strength(kind));
                await(kind);
                state = AT_UNIT;
            } else if (parens > 0) {
                acceptClosing(kind);
            } else {
                acceptSumEnd(kind);
            }
        }

        private void acceptClosing(int kind) {
            if (kind != ')') {
                refuse();
                return;
            }
            release(1);
            parens--;
            if (waitingSize > 0) {
                waitingSize--;
            }
        }

        private void acceptSumEnd(int kind) {
            release(1);
            if (statement == PUT && kind == AS) {
                statement = AS;
                state = AT_UNIT;
            } else if (statement == IF && kind == '[') {
                open(IF, 0);
            } else if (statement != PUT && statement != IF && kind == ';') {
                program.add(statement == AS ? PUT : statement, 0);
                state = AT_STATEMENT;
            } else {
                refuse();
            }
        }

        private void acceptRounds(int kind) {
            if (kind != NUMBER) {
                refuse();
                return;
            }
            rounds = scan.number;
            if (rounds > MOST_ROUNDS) {
                note(2, scan.at);
            }
            state = AT_OPENING;
        }

        private void acceptOpening(int kind) {
            if (kind == '[') {
                open(FOR, rounds);
            } else {
                refuse();
            }
        }

        private void acceptBehindBlock(int kind) {
            if (kind == ';') {
                state = AT_STATEMENT;
            } else {
                refuse();
            }
        }

        private void open(int kind, int number) {
            heading = false;
            if (blocks >= MOST_BLOCKS) {
                note(3, began);
                return;
            }
            opened[blocks] = program.size;
            blocks++;
            program.add(kind, number);
            state = AT_STATEMENT;
        }

        private void close() {
            blocks--;
            int from = opened[blocks];
            program.link(from, program.size);
            if (program.isFor(from)) {
                program.add(']', 0);
                program.link(program.size - 1, from);
            }
            state = BEHIND_BLOCK;
        }

        private static int strength(int kind) {
            switch (kind) {
                case '+': case '-': return 1;
                case '*': case '/': case '%': return 2;
                default: return 0;
            }
        }

        private void await(int kind) {
            if (waitingSize < waiting.length) {
                waiting[waitingSize] = kind;
                waitingSize++;
            }
        }

        // Signs that wait are done ahead of a weaker or like one; a ( has no strength, so none behind it is.
        private void release(int least) {
            while (waitingSize > 0 && strength(waiting[waitingSize - 1]) >= least) {
                waitingSize--;
                program.add(waiting[waitingSize], 0);
            }
        }
    }

    /** Does a PROGRAM with a TABLE. */
    private static final class Machine {
        int steps;
        int refused;
        int latest;
        boolean ended;
        private int loops;
        private final int[] roundOf;
        private int operandsSize;
        private final int[] operands;

        Machine() {
            roundOf = new int[MOST_BLOCKS];
            operands = new int[MOST_OPERANDS];
        }

        void begin() {
            steps = 0;
            refused = 0;
            latest = 0;
            ended = false;
            loops = 0;
            operandsSize = 0;
        }

        void work(Program program, Table table) {
            int at = 0;
            for (int n = 0; n < MOST_MOVES && at >= 0 && at < program.size && !ended; n++) {
                switch (program.kinds[at]) {
                    case NUMBER:
                        push(program.numbers[at]);
                        at++;
                        break;
                    case ROUND:
                        push(loops > 0 ? roundOf[loops - 1] : 0);
                        at++;
                        break;
                    case LATEST:
                        push(latest);
                        at++;
                        break;
                    case IF:
                        at = pop() > 0 ? at + 1 : program.links[at];
                        break;
                    case FOR:
                        at = beginRounds(program, at);
                        break;
                    case ']':
                        at = goRound(program, at);
                        break;
                    case PUT: case DROP: case GET: case LET:
                        act(program.kinds[at], table);
                        at++;
                        break;
                    default:
                        calculate(program.kinds[at]);
                        at++;
                        break;
                }
            }
        }

        private void push(int number) {
            if (operandsSize < MOST_OPERANDS) {
                operands[operandsSize] = number;
                operandsSize++;
            }
        }

        private int pop() {
            if (operandsSize == 0) {
                return 0;
            }
            operandsSize--;
            return operands[operandsSize];
        }

        private boolean step() {
            if (steps >= MOST_STEPS) {
                ended = true;
                return false;
            }
            steps++;
            return true;
        }

        private int beginRounds(Program program, int at) {
            if (program.numbers[at] == 0) {
                return program.links[at] + 1;
            }
            if (loops < MOST_BLOCKS && step()) {
                roundOf[loops] = 0;
                loops++;
            }
            return at + 1;
        }

        private int goRound(Program program, int at) {
            int from = program.links[at];
            if (loops == 0 || !program.isFor(from)) {
                return at + 1;
            }
            if (roundOf[loops - 1] + 1 >= program.numbers[from]) {
                loops--;
                return at + 1;
            }
            if (step()) {
                roundOf[loops - 1]++;
            }
            return from + 1;
        }

        private void calculate(int sign) {
            int right = pop();
            int left = pop();
            switch (sign) {
                case '+':
                    push(left + right);
                    break;
                case '-':
                    push(left - right);
                    break;
                case '*':
                    push(left * right);
                    break;
                case '/':
                    push(right == 0 ? 0 : left / right);
                    break;
                default:
                    push(right == 0 ? 0 : left % right);
                    break;
            }
        }

        private void act(int kind, Table table) {
            if (!step()) {
                return;
            }
            int value = kind == PUT ? pop() : 0;
            int number = pop();
            if (kind == LET) {
                latest = number;
            } else if (kind == GET) {
                look(number, table);
            } else if (!isKey(number) || kind == PUT && table.isFullFor(number)) {
                refused++;
            } else {
                table.countReads(number);
                int told = kind == PUT ? table.lay(number, value) : table.take(number);
                if (told == NONE) {
                    refused++;
                }
            }
        }

        private void look(int number, Table table) {
            latest = NONE;
            if (!isKey(number)) {
                refused++;
                return;
            }
            table.countReads(number);
            int found = table.keys.find(number);
            if (found >= 0) {
                latest = table.keys.valueAt(found);
            }
        }
    }
}
