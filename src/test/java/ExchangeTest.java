/** Promises 6 and 7: begin, and what deliver does with the packets of an exchange of keys. */
public final class ExchangeTest {
    private static final long P = Crypto.P;

    public static void main(String[] args) {
        begin();
        beginOnlyWhenNewOrReady();
        nobody();
        everyPacketOfAnExchange();
        bothBegin();
        newKeysWhileDataIsOnItsWay();
        initOutOfPlace();
        initListsThatAreNone();
        initWithAnotherCount();
        alteredOffers();
        offersWithoutACommonOne();
        shares();
        repliesWithWrongShares();
        repliesOutOfPlace();
        signaturesThatDoNotVerify();
        aReplyOfAnotherServer();
        partsAndNumbersOutsideTheGroup();
        aGenuineSignatureWithNought();
        powerOfNought();
        signaturesOfManyValues();
        trustIsLookedAtBeforeTheSignature();
        newKeysOutOfPlace();
        newKeysFromAnother();
        shareThatIsItsOwnInverse();
        kindsBeforeKeys();
        deliverWhenDead();
        lostNewKeys();
        Check.end();
    }

    private static void checkRow(String what, SecurePair pair, int e, int k, long... row) {
        for (int i = 0; i < 6; i++) {
            Check.same(what + ", part " + i, pair.packet(e, k, i), row[i]);
        }
    }

    private static void begin() {
        for (int e = 0; e < 2; e++) {
            SecurePair pair = new SecurePair();
            pair.offer(e, 83, 26);
            Check.same("begin", pair.begin(e), 1);
            Check.same("phase", pair.phase(e), 1);
            Check.same("the other's phase", pair.phase(1 - e), 0);
            Check.same("line", pair.line(1 - e), 1);
            Check.same("own line", pair.line(e), 0);
            checkRow("INIT", pair, 1 - e, 0, 20, 0, 83, 26, 0, 0);
        }
        SecurePair pair = Pairs.ready();
        Check.same("second begin", pair.begin(1), 2);
        Pairs.settle(pair);
        Check.same("third begin, after one that the other began", pair.begin(0), 3);
    }

    private static void beginOnlyWhenNewOrReady() {
        SecurePair offering = new SecurePair();
        offering.begin(0);
        Check.refused("begin when offering", IllegalStateException.class, offering, () -> offering.begin(0));
        SecurePair sharing = Pairs.sharing();
        Check.refused("begin when sharing", IllegalStateException.class, sharing, () -> sharing.begin(0));
        Check.refused("begin when sharing", IllegalStateException.class, sharing, () -> sharing.begin(1));
        sharing.deliver(1);
        Check.refused("begin when turning", IllegalStateException.class, sharing, () -> sharing.begin(1));
        sharing.leave(1, 0);
        Check.refused("begin when dead", IllegalStateException.class, sharing, () -> sharing.begin(1));
    }

    private static void nobody() {
        SecurePair pair = Pairs.connected();
        for (int e : new int[] {-1, 2, Integer.MIN_VALUE, Integer.MAX_VALUE}) {
            Check.refused("begin(" + e + ")", IndexOutOfBoundsException.class, pair, () -> pair.begin(e));
            Check.refused("deliver(" + e + ")", IndexOutOfBoundsException.class, pair, () -> pair.deliver(e));
        }
    }

    private static void everyPacketOfAnExchange() {
        SecurePair pair = new SecurePair();
        pair.offer(0, 10, 26);
        pair.offer(1, 17, 3);
        pair.secret(0, 123456);
        pair.secret(1, 654321);
        pair.host(777);
        Agreed agreed = new Agreed();
        agreed.clientSecret = 123456;
        agreed.serverSecret = 654321;
        agreed.hostSecret = 777;
        agreed.clientInit = new long[] {0, 10, 26};
        agreed.serverInit = new long[] {0, 17, 3};
        agreed.cipher = 2;
        agreed.tagKind = 3;
        firstExchange(pair, agreed);
        pair.offer(0, 4, 4);
        pair.offer(1, 20, 20);
        pair.secret(0, 31);
        Agreed next = new Agreed();
        next.clientSecret = 31;
        next.serverSecret = 654321;
        next.hostSecret = 777;
        next.clientInit = new long[] {1, 4, 4};
        next.serverInit = new long[] {1, 20, 20};
        next.cipher = 4;
        next.tagKind = 4;
        next.earlierSession = agreed.session();
        secondExchange(pair, agreed, next);
    }

    private static void firstExchange(SecurePair pair, Agreed agreed) {
        pair.begin(0);
        Check.same("deliver INIT", pair.deliver(1), 20);
        Check.same("the server is sharing", pair.phase(1), 2);
        checkRow("the server's INIT", pair, 0, 0, 20, 0, 17, 3, 0, 0);
        Check.same("no more than INIT", pair.line(0), 1);
        Check.same("deliver INIT", pair.deliver(0), 20);
        Check.same("the client is sharing", pair.phase(0), 2);
        checkRow("SHARE", pair, 1, 0, 30, agreed.clientShare(), 0, 0, 0, 0);
        Check.same("no more than SHARE", pair.line(1), 1);
        Check.same("deliver SHARE", pair.deliver(1), 30);
        Check.same("the server is turning", pair.phase(1), 3);
        long r = Crypto.signatureR(agreed.hash());
        long s = Crypto.signatureS(agreed.hash(), agreed.hostSecret);
        checkRow("REPLY", pair, 0, 0, 31, agreed.part(), agreed.serverShare(), r, s, 0);
        checkRow("NEWKEYS", pair, 0, 1, 21, 0, 0, 0, 0, 0);
        Check.same("no more than NEWKEYS", pair.line(0), 2);
        Check.same("deliver REPLY", pair.deliver(0), 31);
        Check.same("the client is turning", pair.phase(0), 3);
        checkRow("NEWKEYS", pair, 1, 0, 21, 0, 0, 0, 0, 0);
        Check.same("deliver NEWKEYS", pair.deliver(0), 21);
        Check.same("the client is ready", pair.phase(0), 4);
        Check.same("deliver NEWKEYS", pair.deliver(1), 21);
        Check.same("the server is ready", pair.phase(1), 4);
        Check.same("the client's session", pair.session(0), agreed.hash());
        Check.same("the server's session", pair.session(1), agreed.hash());
        Check.same("nothing more", pair.line(0) + pair.line(1), 0);
    }

    private static void secondExchange(SecurePair pair, Agreed old, Agreed next) {
        Check.same("begin again", pair.begin(1), 2);
        old.checkPacket("INIT with keys", pair, 0, 0, 0, 20, 1, 20, 20, 0);
        pair.deliver(0);
        old.checkPacket("INIT with keys", pair, 1, 0, 0, 20, 1, 4, 4, 0);
        old.checkPacket("SHARE with keys", pair, 1, 1, 1, 30, next.clientShare(), 0, 0, 0);
        pair.deliver(1);
        pair.deliver(1);
        long r = Crypto.signatureR(next.hash());
        long s = Crypto.signatureS(next.hash(), next.hostSecret);
        old.checkPacket("REPLY with keys", pair, 0, 0, 1, 31, next.part(), next.serverShare(), r, s);
        old.checkPacket("NEWKEYS with the old keys", pair, 0, 1, 2, 21, 0, 0, 0, 0);
        Check.same("the server sends with the new cipher", pair.state(1, 2), 4);
        Check.same("the client not yet", pair.state(0, 2), 2);
        pair.deliver(0);
        old.checkPacket("NEWKEYS with the old keys", pair, 1, 0, 2, 21, 0, 0, 0, 0);
        Pairs.settle(pair);
        Check.same("both ready", pair.phase(0) * 10 + pair.phase(1), 44);
        pair.open(0);
        next.checkPacket("OPEN with the new keys", pair, 1, 0, 0, 90, 0, 24, 0, 0);
        pair.deliver(1);
        next.checkPacket("CONFIRM with the new keys", pair, 0, 0, 0, 91, 0, 0, 24, 0);
        pair.deliver(0);
        Check.same("both still ready", pair.phase(0) * 10 + pair.phase(1), 44);
    }

    private static void bothBegin() {
        SecurePair pair = new SecurePair();
        pair.begin(0);
        pair.begin(1);
        Pairs.settle(pair);
        Check.same("both ready", pair.phase(0) * 10 + pair.phase(1), 44);
        Check.same("session", pair.session(0), new Agreed().session());
        pair.begin(1);
        pair.begin(0);
        Pairs.settle(pair);
        Check.same("both ready again", pair.phase(0) * 10 + pair.phase(1), 44);
        Check.same("two INITs of each", pair.begin(0) * 10 + pair.begin(1), 33);
    }

    private static void newKeysWhileDataIsOnItsWay() {
        SecurePair pair = Pairs.connected();
        pair.write(0, 0, 1, 1);
        pair.begin(0);
        pair.write(1, 0, 2, 1);
        Check.same("DATA when ready", pair.deliver(1), 94);
        Check.same("DATA when offering", pair.deliver(0), 94);
        Check.same("INIT", pair.deliver(1), 20);
        Check.same("INIT", pair.deliver(0), 20);
        Pairs.settle(pair);
        Check.same("both ready", pair.phase(0) * 10 + pair.phase(1), 44);
        Check.same("byte", pair.read(1, 0), 1);
        Check.same("byte", pair.read(0, 0), 2);
        Check.same("channels go on", pair.write(0, 0, 3, 1), 1);
        Check.same("DATA with new keys", pair.deliver(1), 94);
        Check.same("byte", pair.read(1, 0), 3);
    }

    private static void initOutOfPlace() {
        SecurePair sharing = Pairs.sharing();
        sharing.insert(0, 20, 0, 0);
        sharing.alter(0, 2, 1);
        sharing.alter(0, 3, 1);
        Check.same("deliver", sharing.deliver(0), 20);
        Check.same("INIT when sharing", sharing.phase(0), 5 + 8 * 2);
        SecurePair turning = Pairs.sharing();
        turning.deliver(1);
        turning.lose(1);
        turning.insert(1, 20, 0, 0);
        turning.alter(1, 2, 1);
        turning.alter(1, 3, 1);
        turning.deliver(1);
        Check.same("INIT when turning", turning.phase(1), 5 + 8 * 2);
        SecurePair doubled = new SecurePair();
        doubled.begin(0);
        doubled.twice(1);
        doubled.deliver(1);
        doubled.deliver(1);
        Check.same("INIT twice", doubled.phase(1), 5 + 8 * 2);
    }

    private static void initListsThatAreNone() {
        int[][] changes = {{2, 1}, {3, 1}, {2, 5 ^ 1}, {3, 9 ^ 1}, {2, Integer.MIN_VALUE}, {3, -1}, {2, 64}, {3, 512}, {2, 1 << 30}};
        for (int[] change : changes) {
            SecurePair pair = new SecurePair();
            pair.begin(0);
            pair.alter(1, change[0], change[1]);
            Check.same("deliver", pair.deliver(1), 20);
            Check.same("no list", pair.phase(1), 5 + 8 * 3);
            checkRow("its own INIT went out first", pair, 0, 0, 20, 0, 1, 1, 0, 0);
            checkRow("then DISCONNECT", pair, 0, 1, 1, 3, 0, 0, 0, 0);
            Check.same("no more", pair.line(0), 2);
        }
        SecurePair inserted = new SecurePair();
        inserted.begin(1);
        inserted.insert(1, 20, 7, 7);
        inserted.deliver(1);
        Check.same("an INIT without lists when offering", inserted.phase(1), 5 + 8 * 3);
        Check.same("only one INIT of its own", inserted.line(0), 2);
    }

    private static void initWithAnotherCount() {
        SecurePair pair = new SecurePair();
        pair.begin(0);
        pair.alter(1, 1, 9);
        Pairs.settle(pair);
        Check.same("another count makes another H", pair.phase(0), 5 + 8 * 4);
        Check.same("a session that did not verify is none", pair.session(0), 0);
        SecurePair other = new SecurePair();
        other.begin(1);
        other.alter(0, 1, -9);
        Pairs.settle(other);
        Check.same("another count makes another H", other.phase(0), 5 + 8 * 4);
    }

    private static void alteredOffers() {
        SecurePair pair = new SecurePair();
        pair.offer(0, 10, 1);
        pair.offer(1, 10, 1);
        pair.begin(0);
        pair.alter(1, 2, 10 ^ 1);
        pair.deliver(1);
        Check.same("an altered list is a list", pair.phase(1), 2);
        Pairs.settle(pair);
        Check.same("but does not verify", pair.phase(0), 5 + 8 * 4);
        SecurePair tagTested = new SecurePair();
        tagTested.begin(0);
        tagTested.alter(1, 5, 12345);
        tagTested.alter(1, 4, 12345);
        Pairs.settle(tagTested);
        Check.same("without keys nobody looks at the tag, nor at z", tagTested.phase(0) * 10 + tagTested.phase(1), 44);
    }

    private static void offersWithoutACommonOne() {
        int[][] offers = {{1, 1, 2, 1}, {1, 1, 1, 2}, {10, 3, 3, 3}, {3, 26, 3, 12}, {1, 4, 1, 83}, {1, 26, 1, 19}};
        for (int[] o : offers) {
            SecurePair pair = new SecurePair();
            pair.offer(0, o[0], o[1]);
            pair.offer(1, o[2], o[3]);
            boolean common = o[3] == 19;
            pair.begin(0);
            pair.deliver(1);
            Check.same("the server", pair.phase(1), common ? 2 : 5 + 8 * 3);
            pair.deliver(0);
            Check.same("the client", pair.phase(0), common ? 2 : 5 + 8 * 3);
        }
    }

    private static void shares() {
        long[] good = {2, 3, P - 2, 1 << 30};
        long[] bad = {0, 1, P - 1, P, P + 1, -1, -2, Long.MIN_VALUE, Long.MAX_VALUE, (1L << 32) + 5};
        for (long share : good) {
            SecurePair pair = Pairs.sharingWithEmptyLines();
            pair.insert(1, 30, share, 0);
            Check.same("deliver", pair.deliver(1), 30);
            Check.same("share " + share, pair.phase(1), 3);
            pair.deliver(0);
            Check.same("the client sees that it is not its own", pair.phase(0), 5 + 8 * 4);
        }
        for (long share : bad) {
            SecurePair pair = Pairs.sharingWithEmptyLines();
            pair.insert(1, 30, share, 0);
            pair.deliver(1);
            Check.same("share " + share, pair.phase(1), 5 + 8 * 3);
            Check.same("no session of it", pair.session(1), 0);
            checkRow("DISCONNECT", pair, 0, 0, 1, 3, 0, 0, 0, 0);
        }
        SecurePair fresh = new SecurePair();
        fresh.insert(1, 30, 49, 0);
        fresh.deliver(1);
        Check.same("SHARE when new", fresh.phase(1), 5 + 8 * 2);
        SecurePair toClient = Pairs.sharingWithEmptyLines();
        toClient.insert(0, 30, 49, 0);
        toClient.deliver(0);
        Check.same("SHARE to the client", toClient.phase(0), 5 + 8 * 2);
        SecurePair doubled = Pairs.sharing();
        doubled.twice(1);
        doubled.deliver(1);
        doubled.deliver(1);
        Check.same("SHARE twice", doubled.phase(1), 5 + 8 * 2);
    }

    private static void repliesWithWrongShares() {
        int[] bad = {0, 1, (int) P - 1, (int) P, -5, Integer.MIN_VALUE};
        for (int share : bad) {
            SecurePair pair = reply(16807, share, 1, 1);
            Check.same("share " + share, pair.phase(0), 5 + 8 * 3);
        }
        for (int share : new int[] {2, (int) P - 2}) {
            Check.same("share " + share + " is looked at further", reply(16807, share, 1, 1).phase(0), 5 + 8 * 4);
        }
        SecurePair trusting = Pairs.sharingWithEmptyLines();
        trusting.trust(4);
        trusting.insert(0, 31, 16807, 0);
        trusting.deliver(0);
        Check.same("the share is looked at before trust", trusting.phase(0), 5 + 8 * 3);
    }

    /** A client that was sharing with its default secret and was given this REPLY. */
    private static SecurePair reply(long part, int share, int r, int s) {
        SecurePair pair = Pairs.sharingWithEmptyLines();
        giveReply(pair, part, share, r, s);
        return pair;
    }

    private static void giveReply(SecurePair pair, long part, int share, int r, int s) {
        pair.insert(0, 31, part, 0);
        pair.alter(0, 2, share);
        pair.alter(0, 3, r);
        pair.alter(0, 4, s);
        Check.same("deliver REPLY", pair.deliver(0), 31);
    }

    private static void repliesOutOfPlace() {
        SecurePair fresh = new SecurePair();
        fresh.insert(0, 31, 16807, 0);
        fresh.deliver(0);
        Check.same("REPLY when new", fresh.phase(0), 5 + 8 * 2);
        SecurePair toServer = Pairs.sharingWithEmptyLines();
        toServer.insert(1, 31, 16807, 0);
        toServer.deliver(1);
        Check.same("REPLY to the server", toServer.phase(1), 5 + 8 * 2);
        SecurePair doubled = Pairs.sharing();
        doubled.deliver(1);
        doubled.twice(0);
        doubled.deliver(0);
        doubled.deliver(0);
        Check.same("REPLY twice", doubled.phase(0), 5 + 8 * 2);
    }

    private static void signaturesThatDoNotVerify() {
        int[][] changes = {{1, 1}, {2, 1}, {3, 1}, {4, 1}, {1, -1}, {3, -1}, {4, -1}, {3, 1 << 30}, {4, Integer.MIN_VALUE}};
        for (int[] change : changes) {
            SecurePair pair = Pairs.sharing();
            pair.deliver(1);
            pair.alter(0, change[0], change[1]);
            Check.same("deliver", pair.deliver(0), 31);
            Check.same("part " + change[0] + " altered by " + change[1], pair.phase(0), 5 + 8 * 4);
            Check.same("no session", pair.session(0), 0);
            checkRow("DISCONNECT", pair, 1, 0, 1, 4, 0, 0, 0, 0);
        }
        SecurePair pair = Pairs.sharing();
        pair.alter(1, 1, 2);
        pair.deliver(1);
        pair.deliver(0);
        Check.same("an altered SHARE", pair.phase(0), 5 + 8 * 4);
    }

    /** Somebody who has a key and a share of his own passes when nobody is trusted. */
    private static void aReplyOfAnotherServer() {
        Agreed agreed = new Agreed();
        agreed.hostSecret = 4242;
        agreed.serverSecret = 2424;
        int r = (int) Crypto.signatureR(agreed.hash());
        int s = (int) Crypto.signatureS(agreed.hash(), 4242);
        SecurePair pair = reply(agreed.part(), (int) agreed.serverShare(), r, s);
        Check.same("taken", pair.phase(0), 3);
        Check.same("session", pair.session(0), agreed.session());
        pair.insert(0, 21, 0, 0);
        pair.deliver(0);
        Check.same("ready", pair.phase(0), 4);
        pair.lose(1);
        pair.open(0);
        agreed.checkPacket("OPEN to somebody", pair, 1, 0, 0, 90, 0, 24, 0, 0);
        SecurePair trusting = Pairs.sharingWithEmptyLines();
        trusting.trust((int) agreed.part());
        giveReply(trusting, agreed.part(), (int) agreed.serverShare(), r, s);
        Check.same("taken by one who trusts him", trusting.phase(0), 3);
    }

    private static void partsAndNumbersOutsideTheGroup() {
        // With the part 1 the signature is r = POWER(7, s), whatever H is.
        Check.same("part 1", reply(1, 343, 7, 1).phase(0), 3);
        Check.same("part p + 1", reply(P + 1, 343, 7, 1).phase(0), 5 + 8 * 4);
        Check.same("part 1 - p", reply(1 - P, 343, 7, 1).phase(0), 5 + 8 * 4);
        Check.same("part 0", reply(0, 343, 7, 1).phase(0), 5 + 8 * 4);
        Check.same("part p", reply(P, 343, 7, 1).phase(0), 5 + 8 * 4);
        Check.same("s = p - 1", reply(1, 343, 1, (int) P - 1).phase(0), 3);
        Check.same("s = 0", reply(1, 343, 1, 0).phase(0), 5 + 8 * 4);
        Check.same("s = p", reply(1, 343, 7, (int) P).phase(0), 5 + 8 * 4);
        Check.same("s below 0", reply(1, 343, 1, -1).phase(0), 5 + 8 * 4);
        Check.same("r = p - 1", reply(1, 343, (int) P - 1, (int) (P - 1) / 2).phase(0), 3);
        Check.same("r below 0", reply(1, 343, -1, (int) (P - 1) / 2).phase(0), 5 + 8 * 4);
        Check.same("r = 0", reply(1, 343, 0, 1).phase(0), 5 + 8 * 4);
        Check.same("r = p", reply(1, 343, (int) P, 1).phase(0), 5 + 8 * 4);
        Check.same("r = 1", reply(1, 343, 1, (int) P - 1).phase(0), 3);
        SecurePair greatest = new SecurePair();
        Check.same("the secret (p - 1) / 2", greatest.host(1073741823), P - 1);
        greatest.begin(0);
        Pairs.settle(greatest);
        Check.same("part p - 1", greatest.phase(0), 4);
    }

    /** The server's secrets were searched such that its own s is 0: it sends that, but s must be "from 1 to p - 1". */
    private static void aGenuineSignatureWithNought() {
        for (int hostSecret : new int[] {435816864, 855088318}) {
            for (int change : new int[] {0, (int) P - 1}) {
                Agreed agreed = new Agreed();
                agreed.hostSecret = hostSecret;
                SecurePair pair = Pairs.sharing();
                Check.same("host", pair.host(hostSecret), agreed.part());
                pair.deliver(1);
                checkRow("REPLY", pair, 0, 0, 31, agreed.part(), 343, Crypto.signatureR(agreed.hash()), 0, 0);
                Check.same("the server goes on", pair.phase(1), 3);
                pair.alter(0, 4, change);
                pair.deliver(0);
                Check.same("s = " + change, pair.phase(0), change == 0 ? 5 + 8 * 4 : 3);
            }
        }
    }

    /** POWER is "1 for e = 0": r was searched such that the number e of the signature is 0, and s such that r is POWER(7, s). */
    private static void powerOfNought() {
        long r = 392702925;
        long s = 415274982;
        Check.same("e", Crypto.chain(r, new Agreed().hash()) >>> 34, 0);
        Check.same("r", Crypto.power(7, s), r);
        Check.same("taken", reply(16807, 343, (int) r, (int) s).phase(0), 3);
        Check.same("another s", reply(16807, 343, (int) r, (int) s + 1).phase(0), 5 + 8 * 4);
    }

    private static void signaturesOfManyValues() {
        int odd = 0;
        for (int secret = 1; secret <= 60; secret++) {
            Agreed agreed = new Agreed();
            agreed.clientSecret = secret;
            agreed.hostSecret = 2147483645 - secret;
            SecurePair pair = new SecurePair();
            pair.secret(0, secret);
            pair.host(2147483645 - secret);
            pair.begin(0);
            pair.deliver(1);
            pair.deliver(0);
            pair.deliver(1);
            long h = agreed.hash();
            checkRow("REPLY", pair, 0, 0, 31, agreed.part(), 343, Crypto.signatureR(h), Crypto.signatureS(h, agreed.hostSecret), 0);
            Pairs.settle(pair);
            Check.same("it verifies", pair.phase(0), 4);
            odd += (int) (h & 1);
        }
        Check.yes("odd ones and even ones", odd > 10 && odd < 50);
    }

    private static void trustIsLookedAtBeforeTheSignature() {
        SecurePair pair = Pairs.sharingWithEmptyLines();
        pair.trust(16807);
        giveReply(pair, 16808, 343, 1, 1);
        Check.same("another part", pair.phase(0), 5 + 8 * 9);
        SecurePair wide = Pairs.sharingWithEmptyLines();
        wide.trust(16807);
        giveReply(wide, 16807 + (1L << 32), 343, 1, 1);
        Check.same("a part is a long", wide.phase(0), 5 + 8 * 9);
        SecurePair same = Pairs.sharingWithEmptyLines();
        same.trust(16807);
        giveReply(same, 16807, 343, 1, 1);
        Check.same("the part with a wrong signature", same.phase(0), 5 + 8 * 4);
    }

    private static void newKeysOutOfPlace() {
        SecurePair fresh = new SecurePair();
        fresh.insert(0, 21, 0, 0);
        fresh.deliver(0);
        Check.same("NEWKEYS when new", fresh.phase(0), 5 + 8 * 2);
        SecurePair offering = new SecurePair();
        offering.begin(0);
        offering.insert(0, 21, 0, 0);
        offering.deliver(0);
        Check.same("NEWKEYS when offering", offering.phase(0), 5 + 8 * 2);
        SecurePair swapped = Pairs.sharing();
        swapped.deliver(1);
        swapped.swap(0);
        Check.same("NEWKEYS before REPLY", swapped.deliver(0), 21);
        Check.same("NEWKEYS when sharing", swapped.phase(0), 5 + 8 * 2);
        SecurePair doubled = Pairs.sharing();
        doubled.deliver(1);
        doubled.deliver(0);
        doubled.twice(0);
        doubled.deliver(0);
        doubled.deliver(0);
        Check.same("NEWKEYS twice: the second has no tag", doubled.phase(0), 5 + 8 * 5);
    }

    private static void newKeysFromAnother() {
        SecurePair pair = Pairs.sharing();
        pair.deliver(1);
        pair.insert(1, 21, 55, 66);
        pair.deliver(1);
        Check.same("an inserted NEWKEYS is taken", pair.phase(1), 4);
        pair.deliver(0);
        pair.deliver(1);
        Check.same("the right one is not then", pair.phase(1), 5 + 8 * 5);
    }

    private static void shareThatIsItsOwnInverse() {
        SecurePair pair = new SecurePair();
        pair.secret(0, 1073741823);
        pair.begin(0);
        pair.deliver(1);
        pair.deliver(0);
        Check.same("POWER(7, (p - 1) / 2)", pair.packet(1, 0, 1), P - 1);
        pair.deliver(1);
        Check.same("is no share", pair.phase(1), 5 + 8 * 3);
    }

    private static void kindsBeforeKeys() {
        int[] kinds = {2, 90, 91, 92, 93, 94, 95, 96, 97, 98, 0, -1, 3, 19, 22, 29, 32, 89, 1000, Integer.MIN_VALUE, Integer.MAX_VALUE};
        for (int kind : kinds) {
            for (int e = 0; e < 2; e++) {
                SecurePair pair = new SecurePair();
                pair.insert(e, kind, 1, 1);
                Check.same("deliver", pair.deliver(e), kind);
                Check.same("kind " + kind + " when new", pair.phase(e), 5 + 8 * 2);
                checkRow("DISCONNECT", pair, 1 - e, 0, 1, 2, 0, 0, 0, 0);
                Check.same("received", pair.state(e, 1), 1);
                SecurePair sharing = Pairs.sharingWithEmptyLines();
                sharing.insert(e, kind, 1, 1);
                sharing.deliver(e);
                Check.same("kind " + kind + " when sharing", sharing.phase(e), 5 + 8 * 2);
            }
            SecurePair turning = Pairs.sharing();
            turning.deliver(1);
            turning.insert(1, kind, 1, 1);
            turning.deliver(1);
            Check.same("kind " + kind + " when turning for the first time", turning.phase(1), 5 + 8 * 2);
        }
    }

    private static void deliverWhenDead() {
        SecurePair pair = new SecurePair();
        pair.leave(1, 3);
        pair.begin(0);
        pair.insert(1, 1, 99, 0);
        Check.same("deliver to the dead", pair.deliver(1), -1);
        Check.same("the packet goes", pair.line(1), 1);
        Check.same("deliver to the dead", pair.deliver(1), -1);
        Check.same("none left", pair.deliver(1), 0);
        Check.same("the first reason stays", pair.phase(1), 5 + 8 * 3);
        Check.same("nothing is sent", pair.line(0), 1);
        Check.same("nor received", pair.state(1, 1), 0);
    }

    private static void lostNewKeys() {
        SecurePair pair = Pairs.sharing();
        pair.deliver(1);
        pair.deliver(0);
        pair.deliver(1);
        Check.same("the server is ready", pair.phase(1), 4);
        pair.lose(0);
        pair.open(1);
        Check.same("OPEN", pair.deliver(0), 90);
        Check.same("before NEWKEYS", pair.phase(0), 5 + 8 * 2);
        SecurePair left = Pairs.sharing();
        left.deliver(1);
        left.deliver(0);
        left.lose(0);
        left.leave(1, 6);
        long covered = left.packet(0, 0, 1);
        left.deliver(0);
        Check.same("a reason that nobody uncovers", left.phase(0), 5 + 8 * covered);
    }
}
