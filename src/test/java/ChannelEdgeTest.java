/** The sentences of CHANNELS that name a boundary, a test for each, with packets whose numbers are exact. */
public final class ChannelEdgeTest {
    private static final int OPEN = 90;
    private static final int CONFIRM = 91;
    private static final int REFUSE = 92;
    private static final int WINDOW = 93;
    private static final int DATA = 94;
    private static final int CLOSE = 97;
    private static final int[] THESE_FIVE = {CONFIRM, REFUSE, WINDOW, DATA, CLOSE};
    private static final int FREE = 0;
    private static final int OPENING = 1;
    private static final int IS_OPEN = 2;
    private static final int CLOSED = 3;
    private static final Agreed AGREED = new Agreed();

    public static void main(String[] args) {
        dataFromOneToEightBytes();
        dataNotMoreThanItsRoom();
        dataOnOneClosedHere();
        windowFromOneToAThousand();
        windowIsALong();
        openWithTheWindowThatItTells();
        confirmWithTheWindowThatItTells();
        confirmWithAWindowOfOnesChoice();
        openTakesTheLeastFree();
        openWhenThereIsNoneFree();
        anyOtherStateOfTheChannel();
        oneThatIsNotThere();
        freeHasNothing();
        readTellsNoWindowOnOneThatIsNotOpen();
        windowForTwelveOrMore();
        windowOnAChannelUsedAgain();
        closeTellsWhatWasInTheInbox();
        Check.end();
    }

    private static long channelOf(int state, long peer, int inbox, int room, long window) {
        return state + 4 * peer + 16L * inbox + 1024L * room + 65536 * window;
    }

    /** Channel 0 of both is open, and a genuine packet of the other is on its way to e. */
    private static SecurePair withPacketTo(int e) {
        SecurePair pair = Pairs.connected();
        pair.write(1 - e, 0, 0, 1);
        return pair;
    }

    /** As the one before, with channel 0 of e in this state. */
    private static SecurePair withChannelOf(int e, int state) {
        SecurePair pair = withPacketTo(e);
        if (state == CLOSED) {
            pair.close(e, 0);
        } else if (state != IS_OPEN) {
            give(pair, e, CLOSE, 0, 0);
            pair.write(1 - e, 0, 0, 1);
        }
        if (state == OPENING) {
            pair.open(e);
        }
        Check.same("the state that was wanted", pair.channel(e, 0) & 3, state);
        return pair;
    }

    /** The first packet of the line to e becomes this one, and comes. */
    private static void give(SecurePair pair, int e, int kind, long w, long x) {
        Forger.change(AGREED, pair, e, kind, w, x);
        Check.same("deliver", pair.deliver(e), kind);
    }

    private static void failed(String what, SecurePair pair, int e, long channelBefore) {
        Check.same(what + " fails with 7", pair.phase(e), 5 + 8 * 7);
        Check.same(what + " leaves the channel", pair.channel(e, 0), channelBefore);
        int last = pair.line(1 - e) - 1;
        AGREED.checkPacket(what, pair, 1 - e, last, pair.state(e, 0) - 1, 1, 7, 0, 0, 0);
    }

    /** DATA: "from 1 to 8 bytes". */
    private static void dataFromOneToEightBytes() {
        for (int e = 0; e < 2; e++) {
            for (int count = 1; count <= 8; count++) {
                SecurePair pair = withPacketTo(e);
                long bytes = Forger.change(AGREED, pair, e, DATA, 0, count);
                pair.deliver(e);
                Check.same(count + " bytes", pair.channel(e, 0), channelOf(IS_OPEN, 0, count, 24 - count, 24));
                for (int left = count - 1; left >= 0; left--) {
                    Check.same("byte", pair.read(e, 0), bytes >>> 8 * left & 255);
                }
            }
            for (int count : new int[] {0, 9, -1, -8, 24, 25, 256 + 1, Integer.MIN_VALUE, Integer.MAX_VALUE}) {
                SecurePair pair = withPacketTo(e);
                give(pair, e, DATA, 0, count);
                failed(count + " bytes", pair, e, channelOf(IS_OPEN, 0, 0, 24, 24));
            }
        }
    }

    /** Room for this many bytes (at most 8) is left on the server's open channel 0, and a packet is on its way to it. */
    private static SecurePair withRoom(int room) {
        SecurePair pair = Pairs.connected();
        pair.write(0, 0, 0, 8);
        pair.write(0, 0, 0, 8);
        if (room < 8) {
            pair.write(0, 0, 0, 8 - room);
        }
        Pairs.settle(pair);
        pair.open(0);
        return pair;
    }

    /** DATA: "not more than its room". */
    private static void dataNotMoreThanItsRoom() {
        for (int room = 0; room <= 8; room++) {
            for (int count = 1; count <= 8; count++) {
                SecurePair pair = withRoom(room);
                give(pair, 1, DATA, 0, count);
                String what = count + " bytes into a room of " + room;
                if (count <= room) {
                    Check.same(what, pair.channel(1, 0), channelOf(IS_OPEN, 0, 24 - room + count, room - count, 24));
                    Check.same("it goes on", pair.phase(1), 4);
                } else {
                    failed(what, pair, 1, channelOf(IS_OPEN, 0, 24 - room, room, 24));
                }
            }
        }
    }

    /** DATA: "(for one that is closed here they are lost), and the room falls; otherwise it fails with 7". */
    private static void dataOnOneClosedHere() {
        for (int count : new int[] {0, 1, 8, 9, -1}) {
            SecurePair pair = withChannelOf(1, CLOSED);
            give(pair, 1, DATA, 0, count);
            if (count == 1 || count == 8) {
                Check.same(count + " bytes are lost", pair.channel(1, 0), channelOf(CLOSED, 0, 0, 24 - count, 24));
                Check.same("it goes on", pair.phase(1), 4);
            } else {
                failed(count + " bytes, closed here", pair, 1, channelOf(CLOSED, 0, 0, 24, 24));
            }
        }
        for (int count = 3; count <= 4; count++) {
            SecurePair pair = withRoom(3);
            pair.close(1, 0);
            give(pair, 1, DATA, 0, count);
            if (count == 3) {
                Check.same("the whole room, closed here", pair.channel(1, 0), channelOf(CLOSED, 0, 0, 0, 24));
            } else {
                failed("more than the room, closed here", pair, 1, channelOf(CLOSED, 0, 0, 3, 24));
            }
        }
    }

    /** WINDOW: "the window grows by x, which must be from 1 to 1000, or it fails with 7". */
    private static void windowFromOneToAThousand() {
        int[] growths = {1, 2, 12, 999, 1000, 0, -1, 1001, 65536, Integer.MIN_VALUE, Integer.MAX_VALUE};
        for (int growth : growths) {
            for (int state = IS_OPEN; state <= CLOSED; state++) {
                for (int e = 0; e < 2; e++) {
                    SecurePair pair = withChannelOf(e, state);
                    give(pair, e, WINDOW, 0, growth);
                    String what = "WINDOW of " + growth + ", state " + state;
                    if (growth >= 1 && growth <= 1000) {
                        Check.same(what, pair.channel(e, 0), channelOf(state, 0, 0, 24, 24 + growth));
                        Check.same("it goes on", pair.phase(e), 4);
                    } else {
                        failed(what, pair, e, channelOf(state, 0, 0, 24, 24));
                    }
                }
            }
        }
    }

    /** Promise 21: "plus 65536 times its window (a long)". */
    private static void windowIsALong() {
        SecurePair pair = withPacketTo(0);
        give(pair, 0, WINDOW, 0, 1000);
        for (int i = 1; i <= 40; i++) {
            pair.write(0, 0, 0, 1);
            give(pair, 1, WINDOW, 0, 1000);
            Check.same("after " + i + " times 1000", pair.channel(1, 0), channelOf(IS_OPEN, 0, 0, 24, 23 + 1000L * i));
        }
        Check.same("write from a great window", pair.write(1, 0, 0, 8), 8);
        Check.same("it falls", pair.channel(1, 0), channelOf(IS_OPEN, 0, 0, 24, 40015));
    }

    private static void writeFromWindow(SecurePair pair, int e, int c, int peer, long window) {
        long due = Math.max(0, Math.min(5, window));
        int sent = pair.line(1 - e);
        Check.same("write of 5 bytes from a window of " + window, pair.write(e, c, 0x0102030405L, 5), due);
        Check.same("sent", pair.line(1 - e), due == 0 ? sent : sent + 1);
        if (due > 0) {
            long front = 0x0102030405L >> 8 * (5 - due);
            AGREED.checkPacket("DATA", pair, 1 - e, sent, pair.state(e, 0) - 1, DATA, peer, due, front, 0);
        }
        Check.same("what is left of it", pair.channel(e, c) >> 16, window - due);
    }

    /** "the least free channel becomes open with the window that it tells", and promise 9: "as many as the window has". */
    private static void openWithTheWindowThatItTells() {
        for (int window : new int[] {0, 1, 4, 5, 6, 24, 1001, -1, Integer.MIN_VALUE, Integer.MAX_VALUE}) {
            SecurePair pair = withPacketTo(1);
            give(pair, 1, OPEN, 2, window);
            Check.same("OPEN tells " + window, pair.channel(1, 1), channelOf(IS_OPEN, 2, 0, 24, window));
            AGREED.checkPacket("CONFIRM", pair, 0, 0, 1, CONFIRM, 2, 1, 24, 0);
            writeFromWindow(pair, 1, 1, 2, window);
        }
    }

    /** CONFIRM: "an opening one is open", with the window that it tells; the other's channel is what it tells, too. */
    private static void confirmWithTheWindowThatItTells() {
        for (int e = 0; e < 2; e++) {
            SecurePair pair = withChannelOf(e, OPENING);
            long window = Forger.change(AGREED, pair, e, CONFIRM, 0, 2);
            pair.deliver(e);
            Check.same("CONFIRM tells " + window, pair.channel(e, 0), channelOf(IS_OPEN, 2, 0, 24, window));
            writeFromWindow(pair, e, 0, 2, window);
        }
    }

    /**
     * As the one before, with windows that the test chooses: the first CONFIRM to e becomes one that tells this peer's
     * channel and this window. Forger leaves y open, so what z and the tag change by was searched beforehand.
     */
    private static void confirmWithAWindowOfOnesChoice() {
        int[][] rows = {
            // e, peer's channel, window, change of z, change of the tag
            {0, 1, 0, -1640644544, -297598560},
            {0, 2, 4, 1919633779, -912834816},
            {0, 2, 6, -561439869, -2067573487},
            {0, 0, 1001, -338564256, -928784967},
            {0, 2, -1, 1936312156, -1492559658},
            {0, 0, Integer.MIN_VALUE, -1224901729, 1864720557},
            {0, 2, Integer.MAX_VALUE, -2122444418, 171383091},
            {1, 0, 0, 1129180455, 23524473},
            {1, 1, 1, 1191924319, -501800754},
            {1, 2, 4, -964722581, 370544849},
            {1, 0, 5, 1655385058, 138684717},
            {1, 0, 6, 1705890865, -1357734984},
            {1, 1, 1001, -823627540, -458879828},
            {1, 0, -1, 2114956318, 464937646},
        };
        for (int[] row : rows) {
            int e = row[0];
            SecurePair pair = Pairs.ready();
            pair.open(e);
            pair.deliver(1 - e);
            pair.alter(e, 2, row[1]);
            pair.alter(e, 3, row[2] ^ 24);
            pair.alter(e, 4, row[3]);
            pair.alter(e, 5, row[4]);
            AGREED.checkPacket("the altered CONFIRM", pair, e, 0, 0, CONFIRM, 0, row[1], row[2], row[3]);
            Check.same("deliver", pair.deliver(e), CONFIRM);
            Check.same("CONFIRM tells " + row[2], pair.channel(e, 0), channelOf(IS_OPEN, row[1], 0, 24, row[2]));
            writeFromWindow(pair, e, 0, row[1], row[2]);
        }
    }

    /** OPEN: "the least free channel becomes open". */
    private static void openTakesTheLeastFree() {
        for (int busy = 0; busy < 8; busy++) {
            SecurePair pair = Pairs.ready();
            for (int c = 0; c < 3; c++) {
                pair.open(1);
            }
            Pairs.settle(pair);
            for (int c = 0; c < 3; c++) {
                if ((busy >> c & 1) == 0) {
                    pair.close(0, c);
                }
            }
            Pairs.settle(pair);
            int least = Integer.numberOfTrailingZeros(~busy);
            if (least < 3) {
                Check.same("open, busy " + busy, pair.open(0), least);
                pair.deliver(1);
                Check.same("OPEN, busy " + busy, pair.channel(1, least), channelOf(IS_OPEN, least, 0, 24, 24));
                Check.same("CONFIRM", pair.deliver(0), CONFIRM);
                Check.same("open, busy " + busy, pair.channel(0, least), channelOf(IS_OPEN, least, 0, 24, 24));
            } else {
                Check.refused("open, none free", UnsupportedOperationException.class, pair, () -> pair.open(0));
            }
        }
    }

    /** OPEN: "when there is none, REFUSE", whether the three are open, opening or closed here. */
    private static void openWhenThereIsNoneFree() {
        SecurePair pair = Pairs.ready();
        pair.open(1);
        pair.open(1);
        Pairs.settle(pair);
        pair.close(1, 0);
        pair.open(1);
        pair.lose(0);
        pair.lose(0);
        pair.open(0);
        String[] before = {"" + pair.channel(1, 0), "" + pair.channel(1, 1), "" + pair.channel(1, 2)};
        Check.same("deliver", pair.deliver(1), OPEN);
        AGREED.checkPacket("REFUSE", pair, 0, 0, pair.state(1, 0) - 1, REFUSE, 2, 0, 0, 0);
        Check.same("that is all", pair.line(0), 1);
        for (int c = 0; c < 3; c++) {
            Check.yes("channel " + c + " stays", before[c].equals("" + pair.channel(1, c)));
        }
        Check.same("it goes on", pair.phase(1), 4);
    }

    private static boolean isTakenIn(int kind, int state) {
        switch (kind) {
            case CONFIRM:
            case REFUSE:
                return state == OPENING;
            default:
                return state == IS_OPEN || state == CLOSED;
        }
    }

    /** "For any other state of the channel .. these five make it fail with 7": with a count that would do. */
    private static void anyOtherStateOfTheChannel() {
        for (int kind : THESE_FIVE) {
            for (int state = FREE; state <= CLOSED; state++) {
                for (int e = 0; e < 2; e++) {
                    SecurePair pair = withChannelOf(e, state);
                    long before = pair.channel(e, 0);
                    give(pair, e, kind, 0, 1);
                    String what = "kind " + kind + ", state " + state;
                    if (isTakenIn(kind, state)) {
                        Check.same(what, pair.phase(e), 4);
                    } else {
                        failed(what, pair, e, before);
                    }
                }
            }
        }
    }

    /** "or one that is not there, these five make it fail with 7": with a count that would do. */
    private static void oneThatIsNotThere() {
        for (int kind : THESE_FIVE) {
            for (int c : new int[] {3, 4, -1, 256, Integer.MIN_VALUE, Integer.MAX_VALUE}) {
                for (int state : new int[] {OPENING, IS_OPEN}) {
                    SecurePair pair = withChannelOf(1, state);
                    long before = pair.channel(1, 0);
                    give(pair, 1, kind, c, 1);
                    failed("kind " + kind + ", channel " + c, pair, 1, before);
                }
            }
        }
    }

    /** "A free channel has no inbox, window and room 0", in each way in which a channel becomes free. */
    private static void freeHasNothing() {
        SecurePair refused = withChannelOf(1, OPENING);
        give(refused, 1, REFUSE, 0, 0);
        Check.same("refused", refused.channel(1, 0), 0);
        SecurePair closed = withRoom(3);
        closed.write(1, 0, 0, 5);
        closed.deliver(0);
        give(closed, 1, CLOSE, 0, 0);
        Check.same("closed by the other", closed.channel(1, 0), 0);
        Check.same("no byte is left", closed.read(1, 0), -1);
        SecurePair crossed = withRoom(3);
        crossed.close(1, 0);
        give(crossed, 1, CLOSE, 0, 0);
        Check.same("closed by both", crossed.channel(1, 0), 0);
        Check.same("no byte is left", crossed.read(1, 0), -1);
        Check.same("used again", closed.open(1), 0);
        Check.same("with nothing of the old one", closed.channel(1, 0), channelOf(OPENING, 0, 0, 24, 0));
        Check.same("no byte is left", closed.read(1, 0), -1);
    }

    /** The server's inbox of 24 bytes was read this far while no WINDOW could be sent; it is ready again. */
    private static SecurePair withBytesReadUntold(int bytes) {
        SecurePair pair = Pairs.connected();
        for (int i = 0; i < 3; i++) {
            pair.write(0, 0, 0, 8);
        }
        Pairs.settle(pair);
        pair.begin(1);
        for (int i = 0; i < bytes; i++) {
            pair.read(1, 0);
        }
        Pairs.settle(pair);
        Check.same("ready again", pair.phase(1), 4);
        Check.same("untold", pair.channel(1, 0), channelOf(IS_OPEN, 0, 24 - bytes, 0, 24));
        return pair;
    }

    /** Promise 10: "when e is READY, c is open, and 12 bytes or more were read since the latest WINDOW". */
    private static void readTellsNoWindowOnOneThatIsNotOpen() {
        SecurePair closed = withBytesReadUntold(15);
        Check.same("close", closed.close(1, 0), 9);
        Check.same("read on one closed here", closed.read(1, 0), -1);
        Check.same("CLOSE alone was sent", closed.line(0), 1);
        Check.same("its room stays", closed.channel(1, 0), channelOf(CLOSED, 0, 0, 0, 24));
        SecurePair free = withBytesReadUntold(15);
        free.close(0, 0);
        free.deliver(1);
        Check.same("read on a free one", free.read(1, 0), -1);
        Check.same("CLOSE alone was sent", free.line(0), 1);
        Check.same("it has no room", free.channel(1, 0), 0);
        free.open(1);
        Check.same("read on an opening one", free.read(1, 0), -1);
        Check.same("CLOSE and OPEN alone were sent", free.line(0), 2);
        Pairs.settle(free);
        Check.same("read on one that is open anew", free.read(1, 0), -1);
        Check.same("nothing was read on it", free.channel(1, 0), channelOf(IS_OPEN, 0, 0, 24, 24));
        Check.same("nothing was sent", free.line(0), 0);
    }

    /** Promise 10: "12 bytes or more", and "also when there was none". */
    private static void windowForTwelveOrMore() {
        for (int untold = 0; untold <= 24; untold++) {
            SecurePair pair = withBytesReadUntold(untold);
            Check.same("read", pair.read(1, 0), untold == 24 ? -1 : 0);
            int told = untold == 24 ? 24 : untold + 1;
            Check.same("sent for " + told, pair.line(0), told >= 12 ? 1 : 0);
            Check.same("room for " + told, pair.channel(1, 0),
                    channelOf(IS_OPEN, 0, 24 - told, told >= 12 ? told : 0, 24));
            Pairs.settle(pair);
            Check.same("window for " + told, pair.channel(0, 0), channelOf(IS_OPEN, 0, 0, 24, told >= 12 ? told : 0));
        }
    }

    private static void readBytes(SecurePair pair, int count) {
        pair.write(0, 0, 0, count > 8 ? 8 : count);
        if (count > 8) {
            pair.write(0, 0, 0, count - 8);
        }
        Pairs.settle(pair);
        for (int i = 0; i < count; i++) {
            Check.same("byte", pair.read(1, 0), 0);
        }
    }

    /** Promise 10: what was read on a channel before it became free is no part of the 12 bytes. */
    private static void windowOnAChannelUsedAgain() {
        for (int before = 1; before <= 13; before++) {
            for (int closing = 0; closing < 2; closing++) {
                SecurePair pair = Pairs.connected();
                readBytes(pair, before);
                Pairs.settle(pair);
                pair.close(closing, 0);
                Pairs.settle(pair);
                Check.same("free", pair.channel(1, 0), 0);
                pair.open(0);
                Pairs.settle(pair);
                readBytes(pair, 11);
                Check.same("11 bytes, " + before + " before", pair.line(0), 0);
                readBytes(pair, 1);
                AGREED.checkPacket("WINDOW", pair, 0, 0, pair.state(1, 0) - 1, WINDOW, 0, 12, 0, 0);
                Check.same("12 bytes, " + before + " before", pair.channel(1, 0), channelOf(IS_OPEN, 0, 0, 24, 24));
            }
        }
    }

    /** Promise 11: "Answers how many bytes were in the inbox", from none to all of them. */
    private static void closeTellsWhatWasInTheInbox() {
        Check.same("none", Pairs.connected().close(1, 0), 0);
        for (int read = 0; read <= 24; read++) {
            SecurePair pair = withBytesReadUntold(read);
            Check.same("close", pair.close(1, 0), 24 - read);
            Check.same("its inbox is empty", pair.channel(1, 0), channelOf(CLOSED, 0, 0, 0, 24));
            Check.same("its inbox is empty", pair.read(1, 0), -1);
        }
    }
}
