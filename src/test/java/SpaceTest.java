import java.lang.management.ManagementFactory;

/** All calls of a run live in one room: but for rows of TABLES, once each, no call makes anything. */
public final class SpaceTest {
    private static final long MOST_OF_AN_OBJECT = 400000;
    private static final long MOST_OF_CALLS = 20000;

    private static long made() {
        com.sun.management.ThreadMXBean threads = (com.sun.management.ThreadMXBean) ManagementFactory.getThreadMXBean();
        return threads.getThreadAllocatedBytes(Thread.currentThread().getId());
    }

    private static ClashFree object() {
        ClashFree x = new ClashFree();
        for (int t = 0; t < 4; t++) {
            x.make(t, 8, 25, 0, t);
        }
        return x;
    }

    /** "for 200[put i*9 as i;];" and other texts, byte by byte. */
    private static void feed(ClashFree x, String text) {
        for (int from = 0; from < text.length(); from += 20) {
            int a = five(text, from);
            int b = five(text, from + 4);
            int c = five(text, from + 8);
            int d = five(text, from + 12);
            x.feed(a, b, c, d, five(text, from + 16));
        }
    }

    private static int five(String text, int from) {
        int number = 0;
        for (int i = from; i < from + 4; i++) {
            number = number << 8 | (i < text.length() ? text.charAt(i) : ' ');
        }
        return number;
    }

    private static long calls(ClashFree x) {
        long sum = 0;
        for (int n = 0; n < 12; n++) {
            feed(x, "for 200[put i*9 as i;];");
            sum += x.run(n % 4);
            feed(x, "for 99[drop i*7;get i; if x [put (x+1)*5 as x%3;];];");
            sum += x.run(n % 4) + x.ran(0);
            feed(x, "for 99[drop i*7;get i; if x [put (x+1)*5 as x%3;;];];");
            sum += x.run(n % 4) + x.ran(1);
            sum += x.put(n % 4, n, n) + x.get(n % 4, n) + x.drop(n % 4, n) + x.build(n % 4) + x.has(n % 4, n) + x.bucket(n % 4, n, 1);
            sum += x.room(n % 4, n, 0) + x.place(n % 4, n, 1) + x.key(n % 4, n) + x.walk(n % 4, n) + x.below(n % 4, n);
            sum += x.nearest(n % 4, n) + x.many(n % 4, 1) + x.crowd(n % 4, 3) + x.empty(n % 4) + x.left(n % 4);
            sum += x.outer(n % 4, 5, 5, 100, 0) + x.best(n % 4, 200, n, 0) + x.inner(n % 4, 1, 5, 5) + x.tries(n % 4, 1, 200, n, 1);
            sum += x.would(n % 4, n) + x.frozen(n % 4, n, 2) + x.frozenAt(n % 4, n, 9) + x.shared(n % 4, (n + 1) % 4, 3);
            sum += x.join(n % 4, (n + 1) % 4) + x.values(n % 4, 1) + x.image(n % 4) + x.octet(5) + x.back(2) + x.count(1);
            sum += n == 11 ? x.cut(0, 1, true) + x.copy(2, 3) : 0;
        }
        return sum;
    }

    public static void main(String[] args) {
        calls(object());
        calls(object());
        long before = made();
        ClashFree x = object();
        long behind = made();
        calls(x);
        long end = made();
        System.out.println("an object with four tables: " + (behind - before) + " bytes, its calls: " + (end - behind));
        if (behind - before > MOST_OF_AN_OBJECT || end - behind > MOST_OF_CALLS) {
            System.out.println("that is too much");
            System.exit(1);
        }
    }
}
