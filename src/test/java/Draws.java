import java.math.BigInteger;
import java.util.ArrayList;
import java.util.List;

/** DRAWS, PAIRS and PLACES as Term I tells them, and what is BUILT by them, worked out on paper for the tests. */
final class Draws {
    static final long P = 2147483647L;
    private static final BigInteger WRAP = BigInteger.ONE.shiftLeft(64);
    private BigInteger s;
    long a;
    long b;
    int pairs;

    Draws(long s) {
        this.s = BigInteger.valueOf(s).mod(WRAP);
    }

    /** What is drawn ahead of the rest: 31 bits. */
    long bits() {
        s = s.multiply(new BigInteger("6364136223846793005")).add(new BigInteger("1442695040888963407")).mod(WRAP);
        return s.divide(BigInteger.TWO.pow(33)).longValue();
    }

    void pair() {
        a = 1 + bits() % (P - 1);
        b = bits() % P;
        pairs++;
    }

    long s() {
        return s.longValue();
    }

    static int place(long a, long b, long key, long n) {
        BigInteger number = BigInteger.valueOf(a).multiply(BigInteger.valueOf(key)).add(BigInteger.valueOf(b));
        return number.mod(BigInteger.valueOf(P)).mod(BigInteger.valueOf(n)).intValue();
    }

    /** The KEYS of each of n BUCKETS by the latest PAIR. */
    List<List<Integer>> dealt(List<Integer> keys, int n) {
        List<List<Integer>> parts = new ArrayList<>();
        for (int j = 0; j < n; j++) {
            parts.add(new ArrayList<>());
        }
        for (int key : keys) {
            parts.get(place(a, b, key, n)).add(key);
        }
        return parts;
    }

    /** PAIRS are drawn till no two KEYS have one of so many ROOMS. */
    void bucket(List<Integer> keys, int rooms) {
        boolean clash = rooms > 0;
        while (clash) {
            pair();
            boolean[] taken = new boolean[rooms];
            clash = false;
            for (int key : keys) {
                int room = place(a, b, key, rooms);
                clash |= taken[room];
                taken[room] = true;
            }
        }
    }

    static int squares(List<List<Integer>> parts) {
        int sum = 0;
        for (List<Integer> part : parts) {
            sum += part.size() * part.size();
        }
        return sum;
    }
}
