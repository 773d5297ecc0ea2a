import java.math.BigInteger;

/** The document's MIX, CHAIN, POWER and SIGN, written apart from the program. */
final class Crypto {
    static final long P = 2147483647L;

    private Crypto() {
    }

    static long mix(long a, long b) {
        long x = ((a + 8191L) * 6700417L) ^ b;
        x = x ^ (x >>> 30);
        x = x * -4417276706812531889L;
        return x ^ (x >>> 28);
    }

    static long chain(long... values) {
        long chained = 0;
        for (long value : values) {
            chained = mix(chained, value);
        }
        return chained;
    }

    static long power(long base, long exponent) {
        return BigInteger.valueOf(base).modPow(BigInteger.valueOf(exponent), BigInteger.valueOf(P)).longValueExact();
    }

    static long signatureR(long value) {
        return power(7, (value & 1073741823L) + 1);
    }

    static long signatureS(long value, long hostSecret) {
        long k = (value & 1073741823L) + 1;
        long e = chain(power(7, k), value) >>> 34;
        return BigInteger.valueOf(e).multiply(BigInteger.valueOf(hostSecret)).add(BigInteger.valueOf(k))
                .mod(BigInteger.valueOf(P - 1)).longValueExact();
    }

    static boolean verifies(long part, long r, long s, long value) {
        for (long number : new long[] {part, r, s}) {
            if (number < 1 || number > P - 1) {
                return false;
            }
        }
        BigInteger right = BigInteger.valueOf(r).multiply(BigInteger.valueOf(power(part, chain(r, value) >>> 34)));
        return BigInteger.valueOf(power(7, s)).equals(right.mod(BigInteger.valueOf(P)));
    }
}
