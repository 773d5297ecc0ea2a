import java.math.BigInteger;
import java.util.HashMap;
import java.util.Map;

/**
 * Turns a genuine packet on its way into another one that passes as genuine too, by alter alone. That takes
 * the keys, and more: alter reaches the low half of a part freely, but its high half only as a whole. So the
 * kind, w and x are what the test wants, and y, z and the tag are searched such that alter can reach them.
 */
final class Forger {
    private static final int ROWS = 1 << 16;
    private static final int TRIES = 1 << 24;
    private static final long INVERSE = BigInteger.valueOf(-4417276706812531889L)
            .modInverse(BigInteger.ONE.shiftLeft(64)).longValue();

    private Forger() {
    }

    /** The first packet of the line to e becomes this one; answers the y that it carries. */
    static long change(Agreed agreed, SecurePair pair, int e, int kind, long w, long x) {
        long number = pair.state(e, 1);
        long[] plain = new long[5];
        for (int i = 1; i <= 4; i++) {
            plain[i] = pair.packet(e, 0, i) ^ agreed.mask(e, number, i);
        }
        long tag = pair.packet(e, 0, 5);
        int[] found = search(agreed.tagBefore(e, number, kind, w, x), plain[3], plain[4], tag);
        long y = plain[3] ^ found[0];
        long z = plain[4] ^ found[1];
        Check.same("the searched tag", tag ^ found[2], agreed.tag(e, number, kind, w, x, y, z));
        pair.alter(e, 0, kind ^ (int) pair.packet(e, 0, 0));
        pair.alter(e, 1, reach(w ^ plain[1]));
        pair.alter(e, 2, reach(x ^ plain[2]));
        pair.alter(e, 3, found[0]);
        pair.alter(e, 4, found[1]);
        pair.alter(e, 5, found[2]);
        return y;
    }

    private static int reach(long change) {
        Check.same("within what alter reaches", (int) change, change);
        return (int) change;
    }

    /** What y, z and the tag change by: a meeting in the middle, where the change of z turns out to be an int. */
    private static int[] search(long before, long y, long z, long tag) {
        Map<Long, Integer> rows = new HashMap<>();
        for (int change = 0; change < ROWS; change++) {
            rows.put(highHalf(spread(Crypto.mix(before, y ^ change)) ^ z), change);
        }
        for (int change = 0; change < TRIES; change++) {
            Integer ofY = rows.get(highHalf(unstirred(tag ^ change)));
            if (ofY != null) {
                long ofZ = spread(Crypto.mix(before, y ^ ofY)) ^ z ^ unstirred(tag ^ change);
                return new int[] {ofY, (int) ofZ, change};
            }
        }
        throw new IllegalStateException("nothing found");
    }

    private static long spread(long a) {
        return (a + 8191) * 6700417;
    }

    /** What MIX had before it stirred: MIX(a, b) gives spread(a) ^ b here. */
    private static long unstirred(long mixed) {
        long x = mixed ^ mixed >>> 28 ^ mixed >>> 56;
        x *= INVERSE;
        return x ^ x >>> 30 ^ x >>> 60;
    }

    /** The bits from 31 on, or all of them turned round: two longs that agree in this differ by an int. */
    private static long highHalf(long value) {
        long high = value >> 31;
        return high ^ high >> 63;
    }
}
