import java.math.BigInteger;

/** MIX "(all wrapping)" and CHAIN: the tests' own against numbers without an end, and the program's tags against those. */
public final class MixTest {
    private static final BigInteger WRAP = BigInteger.ONE.shiftLeft(64);
    private static final long[] EDGES = {
        0, 1, -1, 8191, -8191, -8192, Long.MAX_VALUE, Long.MAX_VALUE - 8190, Long.MIN_VALUE, 1L << 30, 1L << 28, 1L << 34,
        0xffffffffL, -(1L << 32), 0x0123456789abcdefL,
    };

    public static void main(String[] args) {
        mixWraps();
        chains();
        bytesOfEveryKindAreTaggedAndCovered();
        reasonsAreTaggedAndCovered();
        Check.end();
    }

    private static BigInteger unsigned(long value) {
        return new BigInteger(Long.toUnsignedString(value));
    }

    private static BigInteger folded(BigInteger x, int places) {
        return x.xor(x.shiftRight(places));
    }

    private static long mixWithoutEnd(long a, long b) {
        BigInteger x = unsigned(a).add(BigInteger.valueOf(8191)).multiply(BigInteger.valueOf(6700417)).mod(WRAP).xor(unsigned(b));
        x = folded(x, 30);
        x = x.multiply(unsigned(-4417276706812531889L)).mod(WRAP);
        return folded(x, 28).longValue();
    }

    private static void mixWraps() {
        for (long a : EDGES) {
            for (long b : EDGES) {
                Check.same("MIX(" + a + ", " + b + ")", Crypto.mix(a, b), mixWithoutEnd(a, b));
            }
        }
    }

    private static void chains() {
        Check.same("CHAIN of nothing", Crypto.chain(), 0);
        Check.same("CHAIN of one", Crypto.chain(5), mixWithoutEnd(0, 5));
        Check.same("CHAIN of three", Crypto.chain(5, -1, 7), mixWithoutEnd(mixWithoutEnd(mixWithoutEnd(0, 5), -1), 7));
    }

    private static void bytesOfEveryKindAreTaggedAndCovered() {
        Agreed agreed = new Agreed();
        for (long bytes : EDGES) {
            SecurePair pair = Pairs.connected();
            pair.write(0, 0, bytes, 8);
            agreed.checkPacket("DATA of " + bytes, pair, 1, 0, 1, 94, 0, 8, bytes, 0);
            Check.same("deliver", pair.deliver(1), 94);
            for (int left = 7; left >= 0; left--) {
                Check.same("byte of " + bytes, pair.read(1, 0), bytes >>> 8 * left & 255);
            }
        }
    }

    private static void reasonsAreTaggedAndCovered() {
        for (int reason : new int[] {0, -1, 8191, -8191, Integer.MIN_VALUE, Integer.MAX_VALUE}) {
            SecurePair pair = Pairs.ready();
            pair.leave(0, reason);
            new Agreed().checkPacket("DISCONNECT with " + reason, pair, 1, 0, 0, 1, reason, 0, 0, 0);
        }
    }
}
