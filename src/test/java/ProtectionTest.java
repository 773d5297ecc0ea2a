/** Promise 7 behind NEWKEYS: tags, numbers, and which kinds are taken when. */
public final class ProtectionTest {
    private static final int[] UNKNOWN = {0, -1, 3, 19, 22, 29, 32, 89, 95, 96, 98, 1000, Integer.MIN_VALUE, Integer.MAX_VALUE};

    public static void main(String[] args) {
        everyAlteredPartIsSeen();
        lostTwiceAndSwapped();
        insertedPackets();
        ignore();
        ignoreInEveryPhase();
        disconnect();
        unknownKinds();
        exchangeKindsWhenReady();
        initWithoutListsWhenReady();
        forgedShares();
        channelsThatAreNotThere();
        channelKindsOnFreeChannels();
        channelKindsOnOpeningChannels();
        channelKindsOnOpenChannels();
        channelKindsOnClosedChannels();
        forgedOpen();
        forgedWindows();
        channelKindsDuringAnExchange();
        countsOfBothSigns();
        genuineUseOfAChannelThatIsGone();
        moreThanTheRoom();
        Check.end();
    }

    private static void everyAlteredPartIsSeen() {
        for (int what = 0; what < 6; what++) {
            for (int v : new int[] {1, -1, 4, Integer.MIN_VALUE}) {
                SecurePair pair = Pairs.connected();
                pair.write(0, 0, 0x0102030405L, 5);
                pair.alter(1, what, v);
                int kind = (int) pair.packet(1, 0, 0);
                int received = pair.state(1, 1);
                Check.same("deliver", pair.deliver(1), kind);
                Check.same("part " + what + " altered by " + v, pair.phase(1), 5 + 8 * 5);
                Check.same("it was received", pair.state(1, 1), received + 1);
                Check.same("no byte came", pair.channel(1, 0), 2 + 1024 * 24 + 65536 * 24);
                new Agreed().checkPacket("DISCONNECT", pair, 0, 0, 1, 1, 5, 0, 0, 0);
                pair.deliver(0);
                Check.same("it is told", pair.phase(0), 5 + 8 * 5);
            }
        }
    }

    private static void lostTwiceAndSwapped() {
        SecurePair lost = Pairs.connected();
        lost.write(0, 0, 1, 1);
        lost.write(0, 0, 2, 1);
        lost.lose(1);
        lost.deliver(1);
        Check.same("behind a lost packet", lost.phase(1), 5 + 8 * 5);
        SecurePair doubled = Pairs.connected();
        doubled.write(0, 0, 1, 1);
        doubled.twice(1);
        doubled.deliver(1);
        Check.same("the first of two", doubled.phase(1), 4);
        doubled.deliver(1);
        Check.same("the second", doubled.phase(1), 5 + 8 * 5);
        SecurePair swapped = Pairs.connected();
        swapped.write(0, 0, 1, 1);
        swapped.write(0, 0, 2, 1);
        swapped.swap(1);
        swapped.deliver(1);
        Check.same("swapped", swapped.phase(1), 5 + 8 * 5);
        SecurePair untouched = Pairs.connected();
        untouched.write(0, 0, 1, 1);
        untouched.write(0, 0, 2, 1);
        untouched.swap(1);
        untouched.swap(1);
        Pairs.settle(untouched);
        Check.same("swapped twice", untouched.phase(1), 4);
        SecurePair full = Pairs.connected();
        for (int i = 0; i < 16; i++) {
            full.write(0, 0, i, 1);
        }
        full.write(0, 0, 16, 1);
        Check.same("a full line", full.line(1), 16);
        Check.same("numbers are used up", full.state(0, 0), 18);
        Pairs.settle(full);
        Check.same("16 came", full.channel(1, 0), 2 + 16 * 16 + 1024 * 8 + 65536 * 24);
        full.write(0, 0, 17, 1);
        full.deliver(1);
        Check.same("the number behind the lost one", full.phase(1), 5 + 8 * 5);
    }

    private static void insertedPackets() {
        for (int kind : new int[] {1, 2, 20, 21, 30, 31, 90, 97, 55}) {
            for (int e = 0; e < 2; e++) {
                SecurePair pair = Pairs.connected();
                pair.insert(e, kind, 0, 0);
                Check.same("deliver", pair.deliver(e), kind);
                Check.same("the tag is looked at before anything else", pair.phase(e), 5 + 8 * 5);
                Check.same("nothing but DISCONNECT", pair.line(1 - e), 1);
            }
        }
    }

    private static void ignore() {
        Agreed agreed = new Agreed();
        for (int e = 0; e < 2; e++) {
            SecurePair pair = Pairs.ready();
            for (int i = 0; i < 3; i++) {
                agreed.forge(pair, e, 2, i);
                Check.same("deliver", pair.deliver(e), 2);
            }
            Check.same("IGNORE changes nothing", pair.phase(e), 4);
            Check.same("but the number", pair.state(e, 1), 3);
            Check.same("and sends nothing", pair.line(1 - e), 0);
        }
    }

    private static void ignoreInEveryPhase() {
        Agreed agreed = new Agreed();
        SecurePair pair = Pairs.ready();
        pair.begin(0);
        pair.begin(1);
        agreed.forge(pair, 0, 2, 0);
        pair.deliver(0);
        Check.same("IGNORE when offering", pair.phase(0), 1);
        SecurePair sharing = Pairs.ready();
        sharing.begin(0);
        sharing.deliver(1);
        agreed.forge(sharing, 1, 2, 0);
        sharing.deliver(1);
        Check.same("IGNORE when sharing", sharing.phase(1), 2);
        SecurePair turning = Pairs.ready();
        turning.begin(0);
        turning.deliver(1);
        turning.deliver(0);
        turning.deliver(1);
        agreed.forge(turning, 1, 2, 0);
        turning.deliver(1);
        Check.same("IGNORE when turning", turning.phase(1), 3);
    }

    private static void disconnect() {
        for (long reason : new long[] {0, 12, -12, Long.MAX_VALUE, Long.MIN_VALUE}) {
            SecurePair pair = Pairs.ready();
            new Agreed().forge(pair, 1, 1, reason);
            Check.same("deliver", pair.deliver(1), 1);
            Check.same("reason " + reason, pair.phase(1), 5 + 8 * reason);
            Check.same("nothing is sent", pair.line(0), 0);
        }
    }

    private static void unknownKinds() {
        for (int kind : UNKNOWN) {
            SecurePair pair = Pairs.connected();
            new Agreed().forge(pair, 1, kind, 0);
            Check.same("deliver", pair.deliver(1), kind);
            Check.same("kind " + kind, pair.phase(1), 5 + 8 * 2);
        }
    }

    private static void exchangeKindsWhenReady() {
        for (int kind : new int[] {21, 30, 31}) {
            for (int e = 0; e < 2; e++) {
                SecurePair pair = Pairs.ready();
                new Agreed().forge(pair, e, kind, 49);
                pair.deliver(e);
                Check.same("kind " + kind + " when ready", pair.phase(e), 5 + 8 * 2);
            }
        }
    }

    private static void initWithoutListsWhenReady() {
        Agreed agreed = new Agreed();
        SecurePair pair = Pairs.ready();
        agreed.forge(pair, 1, 20, 1);
        Check.same("deliver", pair.deliver(1), 20);
        agreed.checkPacket("its own INIT goes first", pair, 0, 0, 0, 20, 1, 1, 1, 0);
        agreed.checkPacket("then DISCONNECT", pair, 0, 1, 1, 1, 3, 0, 0, 0);
        Check.same("phase", pair.phase(1), 5 + 8 * 3);
    }

    private static void forgedShares() {
        Agreed agreed = new Agreed();
        SecurePair pair = Pairs.ready();
        pair.begin(0);
        pair.deliver(1);
        agreed.forge(pair, 1, 30, 49);
        pair.deliver(1);
        Check.same("a share when sharing", pair.phase(1), 3);
        SecurePair wrong = Pairs.ready();
        wrong.begin(0);
        wrong.deliver(1);
        agreed.forge(wrong, 1, 30, 1);
        wrong.deliver(1);
        Check.same("a wrong share when sharing", wrong.phase(1), 5 + 8 * 3);
    }

    private static void forgedUse(String what, SecurePair pair, int kind, long channel, long duePhase) {
        new Agreed().forge(pair, 1, kind, channel);
        Check.same("deliver", pair.deliver(1), kind);
        Check.same(what + ", kind " + kind + ", channel " + channel, pair.phase(1), duePhase);
    }

    private static void channelsThatAreNotThere() {
        for (int kind : new int[] {91, 92, 93, 94, 97}) {
            for (long channel : new long[] {3, -1, 1L << 32, Long.MIN_VALUE, Long.MAX_VALUE}) {
                forgedUse("no such channel", Pairs.connected(), kind, channel, 5 + 8 * 7);
            }
        }
    }

    private static void channelKindsOnFreeChannels() {
        for (int kind : new int[] {91, 92, 93, 94, 97}) {
            forgedUse("free", Pairs.connected(), kind, 1, 5 + 8 * 7);
            forgedUse("free", Pairs.connected(), kind, 2, 5 + 8 * 7);
        }
    }

    private static SecurePair opening() {
        SecurePair pair = Pairs.ready();
        pair.open(1);
        return pair;
    }

    private static void channelKindsOnOpeningChannels() {
        for (int kind : new int[] {93, 94, 97}) {
            forgedUse("opening", opening(), kind, 0, 5 + 8 * 7);
        }
        SecurePair confirmed = opening();
        Agreed agreed = new Agreed();
        forgedUse("opening", confirmed, 91, 0, 4);
        Check.same("CONFIRM", confirmed.channel(1, 0),
                2 + 4 * agreed.mask(1, 0, 2) + 1024 * 24 + 65536 * agreed.mask(1, 0, 3));
        SecurePair refused = opening();
        forgedUse("opening", refused, 92, 0, 4);
        Check.same("REFUSE", refused.channel(1, 0), 0);
        Check.same("the channel is free", refused.open(1), 0);
    }

    private static void channelKindsOnOpenChannels() {
        for (int kind : new int[] {91, 92}) {
            forgedUse("open", Pairs.connected(), kind, 0, 5 + 8 * 7);
        }
        for (int kind : new int[] {93, 94}) {
            forgedUse("open, but a wrong number", Pairs.connected(), kind, 0, 5 + 8 * 7);
        }
        SecurePair pair = Pairs.connected();
        forgedUse("open", pair, 97, 0, 4);
        Check.same("CLOSE frees", pair.channel(1, 0), 0);
        new Agreed().checkPacket("CLOSE is answered", pair, 0, 0, 1, 97, 0, 0, 0, 0);
    }

    private static SecurePair closed() {
        SecurePair pair = Pairs.connected();
        pair.close(1, 0);
        return pair;
    }

    private static void channelKindsOnClosedChannels() {
        for (int kind : new int[] {91, 92}) {
            forgedUse("closed here", closed(), kind, 0, 5 + 8 * 7);
        }
        for (int kind : new int[] {93, 94}) {
            forgedUse("closed here, but a wrong number", closed(), kind, 0, 5 + 8 * 7);
        }
        SecurePair pair = closed();
        int sent = pair.line(0);
        forgedUse("closed here", pair, 97, 0, 4);
        Check.same("CLOSE frees", pair.channel(1, 0), 0);
        Check.same("and is not answered", pair.line(0), sent);
    }

    private static void forgedOpen() {
        Agreed agreed = new Agreed();
        for (long theirs : new long[] {0, 2, 77, -1, Long.MIN_VALUE}) {
            SecurePair pair = Pairs.ready();
            long window = agreed.mask(1, 0, 2);
            forgedUse("OPEN", pair, 90, theirs, 4);
            Check.same("OPEN from " + theirs, pair.channel(1, 0), 2 + 4 * theirs + 1024 * 24 + 65536 * window);
            agreed.checkPacket("CONFIRM", pair, 0, 0, 0, 91, theirs, 0, 24, 0);
            int due = window > 0 ? 8 : 0;
            Check.same("write into a window that is not the usual", pair.write(1, 0, 1, 8), due);
        }
    }

    /** CONFIRM and OPEN with whatever windows the masks make: writing never fails, and takes what is there. */
    private static void forgedWindows() {
        int below = 0;
        int above = 0;
        for (int i = 0; i < 16; i++) {
            Agreed agreed = new Agreed();
            agreed.clientSecret = 1000 + i;
            SecurePair pair = new SecurePair();
            pair.secret(0, 1000 + i);
            pair.begin(0);
            Pairs.settle(pair);
            long window = agreed.mask(1, 0, 2);
            agreed.forge(pair, 1, 90, 0);
            pair.deliver(1);
            int sent = pair.line(0);
            Check.same("write", pair.write(1, 0, 1, 3), window > 0 ? 3 : 0);
            Check.same("DATA", pair.line(0), window > 0 ? sent + 1 : sent);
            below += window < 0 ? 1 : 0;
            above += window > 0 ? 1 : 0;
        }
        Check.yes("windows of both signs were tried", below > 0 && above > 0);
    }

    private static void channelKindsDuringAnExchange() {
        SecurePair pair = Pairs.connected();
        pair.write(1, 0, 7, 1);
        pair.open(1);
        pair.close(1, 0);
        pair.begin(0);
        Check.same("DATA when offering", pair.deliver(0), 94);
        Check.same("OPEN when offering", pair.deliver(0), 90);
        Check.same("CLOSE when offering", pair.deliver(0), 97);
        Check.same("still offering", pair.phase(0), 1);
        Check.same("INIT, CONFIRM and CLOSE are on their way", pair.line(1), 3);
        Check.same("INIT", pair.deliver(1), 20);
        Check.same("CONFIRM when sharing", pair.deliver(1), 91);
        Check.same("CLOSE when sharing", pair.deliver(1), 97);
        Check.same("closed on both sides", pair.channel(0, 0) + pair.channel(1, 0), 0);
        Check.same("open", pair.channel(1, 1), 2 + 4 + 1024 * 24 + 65536 * 24);
        Pairs.settle(pair);
        Check.same("both ready", pair.phase(0) * 10 + pair.phase(1), 44);
        turningTakesChannelKinds();
    }

    private static void turningTakesChannelKinds() {
        SecurePair pair = Pairs.ready();
        pair.begin(1);
        pair.open(0);
        pair.deliver(1);
        pair.deliver(0);
        pair.deliver(0);
        pair.deliver(1);
        pair.deliver(1);
        Check.same("the server is turning", pair.phase(1), 3);
        new Agreed().forge(pair, 1, 90, 1);
        Check.same("OPEN when turning", pair.deliver(1), 90);
        Check.same("still turning", pair.phase(1), 3);
        Check.same("CONFIRM was sent with the new keys", pair.state(1, 0), 1);
    }

    /** DATA and WINDOW on an open channel with whatever counts the masks make, below 1 and above all limits. */
    private static void countsOfBothSigns() {
        int below = 0;
        int above = 0;
        for (int i = 0; i < 16; i++) {
            for (int kind = 93; kind <= 94; kind++) {
                Agreed agreed = new Agreed();
                agreed.serverSecret = 500 + i;
                SecurePair pair = new SecurePair();
                pair.secret(1, 500 + i);
                pair.begin(0);
                Pairs.settle(pair);
                pair.open(0);
                Pairs.settle(pair);
                long count = agreed.mask(1, 1, 2);
                agreed.forge(pair, 1, kind, 0);
                pair.deliver(1);
                Check.same("kind " + kind + " with " + count, pair.phase(1), 5 + 8 * 7);
                Check.same("and nothing came of it", pair.channel(1, 0), 2 + 1024 * 24 + 65536 * 24);
                below += count < 1 ? 1 : 0;
                above += count > 1000 ? 1 : 0;
            }
        }
        Check.yes("counts of both signs were tried", below > 0 && above > 0);
    }

    /** The first packet of the line to e goes, and a forged one with its number stands in its place. */
    private static void replaceFirst(Agreed agreed, SecurePair pair, int e, int kind, long w) {
        agreed.forge(pair, e, kind, w);
        pair.swap(e);
        pair.lose(e);
    }

    /** Connected, with 16 bytes at the server; then the client was told that channel 0 is closed, and the server knows nothing of it. */
    private static SecurePair closedForTheClientAlone() {
        SecurePair pair = Pairs.connected();
        pair.write(0, 0, 1, 8);
        pair.write(0, 0, 2, 8);
        Pairs.settle(pair);
        pair.write(1, 0, 3, 1);
        replaceFirst(new Agreed(), pair, 0, 97, 0);
        Check.same("deliver", pair.deliver(0), 97);
        Check.same("free for the client", pair.channel(0, 0), 0);
        return pair;
    }

    private static void useFromTheServer(String what, SecurePair pair, boolean window) {
        if (window) {
            for (int i = 0; i < 12; i++) {
                pair.read(1, 0);
            }
        } else {
            pair.write(1, 0, 4, 8);
        }
        Check.same(what, pair.deliver(0), window ? 93 : 94);
        Check.same(what, pair.phase(0), 5 + 8 * 7);
    }

    private static void genuineUseOfAChannelThatIsGone() {
        for (int i = 0; i < 2; i++) {
            boolean window = i == 0;
            useFromTheServer("on a free channel", closedForTheClientAlone(), window);
            SecurePair opening = closedForTheClientAlone();
            opening.open(0);
            useFromTheServer("on an opening channel", opening, window);
        }
    }

    private static void moreThanTheRoom() {
        for (int last : new int[] {0, 1, 7}) {
            Agreed agreed = new Agreed();
            for (int secret = 2; agreed.mask(1, 0, 2) < 100; secret++) {
                agreed.clientSecret = secret;
            }
            SecurePair pair = new SecurePair();
            pair.secret(0, (int) agreed.clientSecret);
            pair.begin(0);
            Pairs.settle(pair);
            pair.open(0);
            replaceFirst(agreed, pair, 1, 90, 0);
            Pairs.settle(pair);
            Check.same("write", pair.write(1, 0, 1, 8) + pair.write(1, 0, 1, 8) + pair.write(1, 0, 1, 8 - last), 24 - last);
            Pairs.settle(pair);
            Check.same("ready as long as there is room", pair.phase(0), 4);
            Check.same("a window beyond the room", pair.write(1, 0, 1, last + 1), last + 1);
            pair.deliver(0);
            Check.same("more than the room", pair.phase(0), 5 + 8 * 7);
            Check.same("none of them came", pair.channel(0, 0) >> 4 & 63, 24 - last);
        }
    }
}
