/** Promises 8 to 11 and 21: open, write, read, close, channel. */
public final class ChannelTest {
    private static final int[] NOBODY = {-1, 2, Integer.MIN_VALUE, Integer.MAX_VALUE};
    private static final int[] NO_CHANNEL = {-1, 3, Integer.MIN_VALUE, Integer.MAX_VALUE};

    public static void main(String[] args) {
        noSuchEndpointOrChannel();
        open();
        openOnlyWhenReady();
        openUntilNoneIsFree();
        opensThatCross();
        refusals();
        writeOnlyOnOpenChannels();
        writeCounts();
        orderOfRefusals();
        bytesInTheirOrder();
        writeIntoASmallWindow();
        lastByteOfAWindow();
        readTellsWindows();
        readWindowWaitsForReady();
        readWithoutBytesTellsAWindowThatWaited();
        readWhenDead();
        countStartsAnewOnANewChannel();
        inboxGoesRound();
        close();
        closeCrosses();
        closedChannelsLoseBytes();
        closedChannelsTakeWindows();
        closeOnlyOpenChannels();
        freedChannelsAreUsedAgain();
        Check.end();
    }

    private static long channelOf(int state, long peer, int inbox, int room, long window) {
        return state + 4 * peer + 16L * inbox + 1024L * room + 65536 * window;
    }

    private static void noSuchEndpointOrChannel() {
        SecurePair pair = Pairs.connected();
        Class<IndexOutOfBoundsException> due = IndexOutOfBoundsException.class;
        for (int e : NOBODY) {
            Check.refused("open(" + e + ")", due, pair, () -> pair.open(e));
            Check.refused("write(" + e + ", 0)", due, pair, () -> pair.write(e, 0, 1, 1));
            Check.refused("read(" + e + ", 0)", due, pair, () -> pair.read(e, 0));
            Check.refused("close(" + e + ", 0)", due, pair, () -> pair.close(e, 0));
            Check.same("channel(" + e + ", 0)", pair.channel(e, 0), -1);
        }
        for (int c : NO_CHANNEL) {
            Check.refused("write(0, " + c + ")", due, pair, () -> pair.write(0, c, 1, 1));
            Check.refused("read(0, " + c + ")", due, pair, () -> pair.read(0, c));
            Check.refused("close(0, " + c + ")", due, pair, () -> pair.close(0, c));
            Check.same("channel(0, " + c + ")", pair.channel(0, c), -1);
            Check.same("channel(1, " + c + ")", pair.channel(1, c), -1);
        }
    }

    private static void open() {
        Agreed agreed = new Agreed();
        for (int e = 0; e < 2; e++) {
            SecurePair pair = Pairs.ready();
            Check.same("open", pair.open(e), 0);
            Check.same("opening", pair.channel(e, 0), channelOf(1, 0, 0, 24, 0));
            agreed.checkPacket("OPEN", pair, 1 - e, 0, 0, 90, 0, 24, 0, 0);
            Check.same("deliver", pair.deliver(1 - e), 90);
            Check.same("open there", pair.channel(1 - e, 0), channelOf(2, 0, 0, 24, 24));
            agreed.checkPacket("CONFIRM", pair, e, 0, 0, 91, 0, 0, 24, 0);
            Check.same("deliver", pair.deliver(e), 91);
            Check.same("open here", pair.channel(e, 0), channelOf(2, 0, 0, 24, 24));
            Check.same("the second", pair.open(e), 1);
            agreed.checkPacket("OPEN", pair, 1 - e, 0, 1, 90, 1, 24, 0, 0);
        }
    }

    private static void openOnlyWhenReady() {
        SecurePair fresh = new SecurePair();
        Check.refused("open when new", IllegalStateException.class, fresh, () -> fresh.open(0));
        SecurePair offering = Pairs.ready();
        offering.begin(0);
        Check.refused("open when offering", IllegalStateException.class, offering, () -> offering.open(0));
        SecurePair sharing = Pairs.sharing();
        Check.refused("open when sharing", IllegalStateException.class, sharing, () -> sharing.open(0));
        sharing.deliver(1);
        Check.refused("open when turning", IllegalStateException.class, sharing, () -> sharing.open(1));
        SecurePair dead = Pairs.ready();
        dead.leave(0, 0);
        Check.refused("open when dead", IllegalStateException.class, dead, () -> dead.open(0));
        SecurePair full = Pairs.ready();
        for (int c = 0; c < 3; c++) {
            full.open(0);
        }
        full.begin(0);
        Check.refused("open when neither ready nor free", IllegalStateException.class, full, () -> full.open(0));
    }

    private static void openUntilNoneIsFree() {
        SecurePair pair = Pairs.ready();
        for (int c = 0; c < 3; c++) {
            Check.same("open", pair.open(0), c);
        }
        Check.refused("a fourth", UnsupportedOperationException.class, pair, () -> pair.open(0));
        Pairs.settle(pair);
        for (int c = 0; c < 3; c++) {
            Check.same("channel " + c, pair.channel(0, c), channelOf(2, c, 0, 24, 24));
            Check.same("channel " + c, pair.channel(1, c), channelOf(2, c, 0, 24, 24));
        }
        Check.refused("a fourth", UnsupportedOperationException.class, pair, () -> pair.open(1));
    }

    private static void opensThatCross() {
        SecurePair pair = Pairs.ready();
        pair.open(0);
        pair.open(1);
        Pairs.settle(pair);
        Check.same("the client's own", pair.channel(0, 0), channelOf(2, 1, 0, 24, 24));
        Check.same("its end at the server", pair.channel(1, 1), channelOf(2, 0, 0, 24, 24));
        Check.same("the server's own", pair.channel(1, 0), channelOf(2, 1, 0, 24, 24));
        Check.same("its end at the client", pair.channel(0, 1), channelOf(2, 0, 0, 24, 24));
        pair.write(0, 0, 'a', 1);
        pair.write(1, 0, 'b', 1);
        Pairs.settle(pair);
        Check.same("read", pair.read(1, 1), 'a');
        Check.same("read", pair.read(0, 1), 'b');
        Check.same("read", pair.read(0, 0), -1);
    }

    private static void refusals() {
        Agreed agreed = new Agreed();
        SecurePair pair = Pairs.ready();
        for (int c = 0; c < 3; c++) {
            pair.open(0);
        }
        pair.open(1);
        for (int c = 0; c < 3; c++) {
            pair.deliver(1);
        }
        agreed.checkPacket("REFUSE", pair, 0, 3, 3, 92, 2, 0, 0, 0);
        Pairs.settle(pair);
        Check.same("confirmed", pair.channel(0, 0), channelOf(2, 1, 0, 24, 24));
        Check.same("confirmed", pair.channel(0, 1), channelOf(2, 2, 0, 24, 24));
        Check.same("refused", pair.channel(0, 2), 0);
        Check.same("the server's was refused, for the client was opening all three", pair.channel(1, 0), 0);
        Check.same("both ready", pair.phase(0) * 10 + pair.phase(1), 44);
        Check.same("the refused one is free", pair.open(0), 2);
        Pairs.settle(pair);
        Check.same("and open now", pair.channel(0, 2), channelOf(2, 0, 0, 24, 24));
    }

    private static void writeOnlyOnOpenChannels() {
        SecurePair pair = Pairs.connected();
        Check.refused("write on a free one", IllegalStateException.class, pair, () -> pair.write(0, 1, 1, 1));
        pair.open(0);
        Check.refused("write on an opening one", IllegalStateException.class, pair, () -> pair.write(0, 1, 1, 1));
        pair.close(0, 0);
        Check.refused("write on a closed one", IllegalStateException.class, pair, () -> pair.write(0, 0, 1, 1));
        SecurePair offering = Pairs.connected();
        offering.begin(0);
        Check.refused("write when offering", IllegalStateException.class, offering, () -> offering.write(0, 0, 1, 1));
        SecurePair dead = Pairs.connected();
        dead.leave(0, 0);
        Check.refused("write when dead", IllegalStateException.class, dead, () -> dead.write(0, 0, 1, 1));
    }

    private static void writeCounts() {
        SecurePair pair = Pairs.connected();
        for (int n : new int[] {0, -1, 9, Integer.MIN_VALUE, Integer.MAX_VALUE}) {
            Check.refused("write of " + n, IllegalArgumentException.class, pair, () -> pair.write(0, 0, 1, n));
        }
        Agreed agreed = new Agreed();
        for (int n = 1; n <= 8; n++) {
            SecurePair other = Pairs.connected();
            long bytes = 0xf1e2d3c4b5a69788L;
            long sent = n == 8 ? bytes : bytes & (1L << 8 * n) - 1;
            Check.same("write of " + n, other.write(0, 0, bytes, n), n);
            agreed.checkPacket("DATA", other, 1, 0, 1, 94, 0, n, sent, 0);
            Check.same("window", other.channel(0, 0), channelOf(2, 0, 0, 24, 24 - n));
            Check.same("deliver", other.deliver(1), 94);
            Check.same("inbox and room", other.channel(1, 0), channelOf(2, 0, n, 24 - n, 24));
            for (int i = n - 1; i >= 0; i--) {
                Check.same("byte", other.read(1, 0), bytes >>> 8 * i & 255);
            }
            Check.same("no more", other.read(1, 0), -1);
        }
    }

    private static void orderOfRefusals() {
        SecurePair pair = Pairs.connected();
        Check.refused("no channel, wrong n", IndexOutOfBoundsException.class, pair, () -> pair.write(0, 3, 1, 9));
        Check.refused("not open, wrong n", IllegalStateException.class, pair, () -> pair.write(0, 1, 1, 9));
        SecurePair fresh = new SecurePair();
        Check.refused("not ready, no channel", IndexOutOfBoundsException.class, fresh, () -> fresh.write(0, -1, 1, 0));
        Check.refused("not ready, no channel", IndexOutOfBoundsException.class, fresh, () -> fresh.close(0, 3));
        Check.refused("not ready", IllegalStateException.class, fresh, () -> fresh.write(0, 0, 1, 0));
        SecurePair full = Pairs.connected();
        for (int i = 0; i < 3; i++) {
            full.write(0, 0, 1, 8);
        }
        Check.refused("no window, wrong n", IllegalArgumentException.class, full, () -> full.write(0, 0, 1, 9));
    }

    private static void bytesInTheirOrder() {
        SecurePair pair = Pairs.connected();
        pair.write(0, 0, 0x68656c6c6fL, 5);
        pair.write(0, 0, 0xff00L, 2);
        Pairs.settle(pair);
        int[] due = {'h', 'e', 'l', 'l', 'o', 255, 0, -1};
        for (int b : due) {
            Check.same("read", pair.read(1, 0), b);
        }
    }

    private static void writeIntoASmallWindow() {
        Agreed agreed = new Agreed();
        SecurePair pair = Pairs.connected();
        pair.write(0, 0, 0, 8);
        pair.write(0, 0, 0, 8);
        pair.write(0, 0, 0, 5);
        Check.same("as many as the window has", pair.write(0, 0, 0x0102030405060708L, 7), 3);
        agreed.checkPacket("from the front", pair, 1, 3, 4, 94, 0, 3, 0x020304, 0);
        Check.same("window", pair.channel(0, 0), channelOf(2, 0, 0, 24, 0));
        int number = pair.state(0, 0);
        Check.same("no window", pair.write(0, 0, 1, 1), 0);
        Check.same("nothing is sent", pair.line(1), 4);
        Check.same("no number is used", pair.state(0, 0), number);
        Pairs.settle(pair);
        Check.same("a full inbox", pair.channel(1, 0), channelOf(2, 0, 24, 0, 24));
        for (int i = 0; i < 21; i++) {
            Check.same("read", pair.read(1, 0), 0);
        }
        for (int b = 2; b <= 4; b++) {
            Check.same("read", pair.read(1, 0), b);
        }
    }

    private static void lastByteOfAWindow() {
        SecurePair pair = Pairs.connected();
        pair.write(0, 0, 0, 8);
        pair.write(0, 0, 0, 8);
        pair.write(0, 0, 0, 7);
        Check.same("a window of one", pair.write(0, 0, 0x0908, 2), 1);
        new Agreed().checkPacket("its byte", pair, 1, 3, 4, 94, 0, 1, 9, 0);
    }

    private static void fill(SecurePair pair) {
        for (long first = 1; first <= 17; first += 8) {
            pair.write(0, 0, 0x0001020304050607L + first * 0x0101010101010101L, 8);
        }
        Pairs.settle(pair);
    }

    private static void readTellsWindows() {
        SecurePair pair = Pairs.connected();
        fill(pair);
        for (int b = 1; b <= 11; b++) {
            Check.same("read", pair.read(1, 0), b);
            Check.same("no window yet", pair.line(0), 0);
        }
        Check.same("room before", pair.channel(1, 0), channelOf(2, 0, 13, 0, 24));
        Check.same("the twelfth", pair.read(1, 0), 12);
        new Agreed().checkPacket("WINDOW", pair, 0, 0, 1, 93, 0, 12, 0, 0);
        Check.same("room after", pair.channel(1, 0), channelOf(2, 0, 12, 12, 24));
        Check.same("deliver", pair.deliver(0), 93);
        Check.same("window", pair.channel(0, 0), channelOf(2, 0, 0, 24, 12));
        for (int b = 13; b <= 23; b++) {
            Check.same("read", pair.read(1, 0), b);
        }
        Check.same("none for eleven more", pair.line(0), 0);
        pair.read(1, 0);
        Check.same("again for the twelfth", pair.line(0), 1);
        Pairs.settle(pair);
        Check.same("whole again", pair.channel(0, 0), channelOf(2, 0, 0, 24, 24));
        Check.same("whole again", pair.channel(1, 0), channelOf(2, 0, 0, 24, 24));
    }

    private static void readWindowWaitsForReady() {
        SecurePair pair = Pairs.connected();
        fill(pair);
        pair.begin(1);
        for (int b = 1; b <= 15; b++) {
            Check.same("read when offering", pair.read(1, 0), b);
        }
        Check.same("INIT alone", pair.line(0), 1);
        Check.same("the room waits", pair.channel(1, 0), channelOf(2, 0, 9, 0, 24));
        Pairs.settle(pair);
        Check.same("ready does not tell it by itself", pair.channel(1, 0), channelOf(2, 0, 9, 0, 24));
        Check.same("read when ready", pair.read(1, 0), 16);
        Check.same("WINDOW for all", pair.channel(1, 0), channelOf(2, 0, 8, 16, 24));
        Check.same("deliver", pair.deliver(0), 93);
        Check.same("window", pair.channel(0, 0), channelOf(2, 0, 0, 24, 16));
    }

    private static void readWithoutBytesTellsAWindowThatWaited() {
        SecurePair pair = Pairs.connected();
        fill(pair);
        pair.begin(0);
        pair.deliver(1);
        for (int b = 1; b <= 24; b++) {
            pair.read(1, 0);
        }
        Check.same("none when sharing", pair.read(1, 0), -1);
        Check.same("the room waits", pair.channel(1, 0), channelOf(2, 0, 0, 0, 24));
        Pairs.settle(pair);
        Check.same("none there", pair.read(1, 0), -1);
        Check.same("but WINDOW", pair.channel(1, 0), channelOf(2, 0, 0, 24, 24));
        Check.same("deliver", pair.deliver(0), 93);
        Check.same("window", pair.channel(0, 0), channelOf(2, 0, 0, 24, 24));
        Check.same("none there", pair.read(1, 0), -1);
        Check.same("and no second WINDOW", pair.line(0), 0);
    }

    private static void readWhenDead() {
        SecurePair pair = Pairs.connected();
        fill(pair);
        pair.leave(1, 1);
        for (int b = 1; b <= 24; b++) {
            Check.same("read when dead", pair.read(1, 0), b);
        }
        Check.same("no WINDOW", pair.line(0), 1);
        Check.same("room", pair.channel(1, 0), channelOf(2, 0, 0, 0, 24));
        Check.same("read on a new object", new SecurePair().read(0, 2), -1);
    }

    private static void countStartsAnewOnANewChannel() {
        SecurePair pair = Pairs.connected();
        fill(pair);
        for (int b = 1; b <= 11; b++) {
            pair.read(1, 0);
        }
        pair.close(0, 0);
        Pairs.settle(pair);
        pair.open(0);
        Pairs.settle(pair);
        pair.write(0, 0, 5, 1);
        Pairs.settle(pair);
        Check.same("read", pair.read(1, 0), 5);
        Check.same("one byte was read on it", pair.line(0), 0);
        Check.same("room", pair.channel(1, 0), channelOf(2, 0, 0, 23, 24));
    }

    private static void inboxGoesRound() {
        SecurePair pair = Pairs.connected();
        int written = 0;
        int read = 0;
        for (int i = 0; i < 30; i++) {
            int n = 1 + i % 8;
            long bytes = 0;
            for (int k = 0; k < n; k++) {
                bytes = bytes << 8 | (written + k) % 251;
            }
            written += pair.write(0, 0, bytes, n);
            Pairs.settle(pair);
            for (int k = 0; k < 4 + i % 2 && read < written; k++) {
                Check.same("byte " + read, pair.read(1, 0), read % 251);
                read++;
            }
            Pairs.settle(pair);
        }
        Check.yes("more than an inbox went through", read > 100);
    }

    private static void close() {
        Agreed agreed = new Agreed();
        SecurePair pair = Pairs.connected();
        pair.write(0, 0, 1, 6);
        pair.write(1, 0, 1, 2);
        Pairs.settle(pair);
        pair.read(1, 0);
        Check.same("close tells what was in the inbox", pair.close(1, 0), 5);
        Check.same("closed here", pair.channel(1, 0), channelOf(3, 0, 0, 18, 22));
        Check.same("nothing to read", pair.read(1, 0), -1);
        agreed.checkPacket("CLOSE", pair, 0, 0, 2, 97, 0, 0, 0, 0);
        Check.same("deliver", pair.deliver(0), 97);
        Check.same("free there", pair.channel(0, 0), 0);
        Check.same("its inbox is gone", pair.read(0, 0), -1);
        agreed.checkPacket("CLOSE is answered", pair, 1, 0, 2, 97, 0, 0, 0, 0);
        Check.same("deliver", pair.deliver(1), 97);
        Check.same("free here", pair.channel(1, 0), 0);
        Check.same("that is all", pair.line(0), 0);
        SecurePair crossed = Pairs.ready();
        crossed.open(0);
        crossed.open(1);
        Pairs.settle(crossed);
        crossed.close(0, 0);
        agreed.checkPacket("CLOSE names the receiver's channel", crossed, 1, 0, 2, 97, 1, 0, 0, 0);
        Pairs.settle(crossed);
        Check.same("free", crossed.channel(0, 0) + crossed.channel(1, 1), 0);
        Check.same("the other stays", crossed.channel(0, 1), channelOf(2, 0, 0, 24, 24));
    }

    private static void closeCrosses() {
        SecurePair pair = Pairs.connected();
        Check.same("close", pair.close(0, 0), 0);
        Check.same("close", pair.close(1, 0), 0);
        Check.same("closed here", pair.channel(0, 0), channelOf(3, 0, 0, 24, 24));
        Pairs.settle(pair);
        Check.same("free", pair.channel(0, 0) + pair.channel(1, 0), 0);
        Check.same("no CLOSE more", pair.state(0, 0) * 10 + pair.state(1, 0), 22);
        Check.same("both ready", pair.phase(0) * 10 + pair.phase(1), 44);
    }

    private static void closedChannelsLoseBytes() {
        SecurePair pair = Pairs.connected();
        pair.write(0, 0, 1, 8);
        pair.write(0, 0, 1, 3);
        pair.close(1, 0);
        Check.same("deliver", pair.deliver(1), 94);
        Check.same("the room falls", pair.channel(1, 0), channelOf(3, 0, 0, 16, 24));
        pair.deliver(1);
        Check.same("the room falls", pair.channel(1, 0), channelOf(3, 0, 0, 13, 24));
        Check.same("the bytes are lost", pair.read(1, 0), -1);
        Check.same("still ready", pair.phase(1), 4);
    }

    private static void closedChannelsTakeWindows() {
        SecurePair pair = Pairs.connected();
        fill(pair);
        for (int i = 0; i < 12; i++) {
            pair.read(1, 0);
        }
        pair.close(0, 0);
        Check.same("deliver", pair.deliver(0), 93);
        Check.same("the window grows", pair.channel(0, 0), channelOf(3, 0, 0, 24, 12));
        Check.same("still ready", pair.phase(0), 4);
    }

    private static void closeOnlyOpenChannels() {
        SecurePair pair = Pairs.connected();
        Check.refused("close of a free one", IllegalStateException.class, pair, () -> pair.close(0, 1));
        pair.open(0);
        Check.refused("close of an opening one", IllegalStateException.class, pair, () -> pair.close(0, 1));
        pair.close(0, 0);
        Check.refused("close of a closed one", IllegalStateException.class, pair, () -> pair.close(0, 0));
        SecurePair offering = Pairs.connected();
        offering.begin(1);
        Check.refused("close when offering", IllegalStateException.class, offering, () -> offering.close(1, 0));
        SecurePair dead = Pairs.connected();
        dead.leave(1, 1);
        Check.refused("close when dead", IllegalStateException.class, dead, () -> dead.close(1, 0));
    }

    private static void freedChannelsAreUsedAgain() {
        SecurePair pair = Pairs.ready();
        for (int c = 0; c < 3; c++) {
            pair.open(0);
        }
        Pairs.settle(pair);
        pair.close(0, 1);
        Check.throwing("a channel closed here is not free", UnsupportedOperationException.class, () -> pair.open(0));
        Pairs.settle(pair);
        Check.same("a free channel has no peer", pair.channel(0, 1), 0);
        Check.same("a free channel has no peer", pair.channel(1, 1), 0);
        Check.same("the least free one", pair.open(0), 1);
        Check.same("opening again", pair.channel(0, 1), channelOf(1, 0, 0, 24, 0));
        Pairs.settle(pair);
        Check.same("open again", pair.channel(0, 1), channelOf(2, 1, 0, 24, 24));
    }
}
