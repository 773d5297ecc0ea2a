/** What both sides of one exchange should have agreed on, worked out from their secrets and INITs. */
final class Agreed {
    long clientSecret = 2;
    long serverSecret = 3;
    long hostSecret = 5;
    long[] clientInit = {0, 1, 1};
    long[] serverInit = {0, 1, 1};
    long cipher = 1;
    long tagKind = 1;
    /** The session of an exchange before this one; null when this is the first. */
    Long earlierSession = null;

    long clientShare() {
        return Crypto.power(7, clientSecret);
    }

    long serverShare() {
        return Crypto.power(7, serverSecret);
    }

    long part() {
        return Crypto.power(7, hostSecret);
    }

    long common() {
        return Crypto.power(clientShare(), serverSecret);
    }

    long hash() {
        return Crypto.chain(clientInit[0], clientInit[1], clientInit[2], serverInit[0], serverInit[1], serverInit[2],
                part(), clientShare(), serverShare(), common());
    }

    long session() {
        return earlierSession == null ? hash() : earlierSession;
    }

    /** The mask of the i-th of w, x, y, z (from 1) in packets to endpoint e. */
    long mask(int e, long number, int i) {
        long key = Crypto.chain(common(), hash(), e == 1 ? 1 : 2, session());
        return Crypto.chain(key, cipher, number, i);
    }

    long tag(int e, long number, long kind, long... w) {
        return Crypto.mix(Crypto.mix(tagBefore(e, number, kind, w[0], w[1]), w[2]), w[3]);
    }

    /** The chain of a tag as far as x, before y and z come into it. */
    long tagBefore(int e, long number, long kind, long w, long x) {
        long key = Crypto.chain(common(), hash(), e == 1 ? 3 : 4, session());
        return Crypto.chain(key, tagKind, number, kind, w, x);
    }

    /** Packet k of the line to e is the protected one with this number, kind and these w, x, y, z. */
    void checkPacket(String what, SecurePair pair, int e, int k, long number, long kind, long... w) {
        Check.same(what + ", kind", pair.packet(e, k, 0), kind);
        for (int i = 1; i <= 4; i++) {
            Check.same(what + ", part " + i, pair.packet(e, k, i) ^ mask(e, number, i), w[i - 1]);
        }
        Check.same(what + ", tag", pair.packet(e, k, 5), tag(e, number, kind, w));
    }

    /**
     * Puts a packet in front of the line to e that passes as genuine there. Its w is free; x, y and z are
     * what the masks make of 0, for insert sets no more than w and the tag.
     */
    void forge(SecurePair pair, int e, int kind, long w) {
        long number = pair.state(e, 1);
        long x = mask(e, number, 2);
        long y = mask(e, number, 3);
        long z = mask(e, number, 4);
        Check.yes("insert of a forged packet", pair.insert(e, kind, w ^ mask(e, number, 1), tag(e, number, kind, w, x, y, z)));
    }
}
