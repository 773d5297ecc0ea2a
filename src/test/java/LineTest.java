/** Promises 13 to 17, 22 and 23: lose, twice, swap, insert, alter, packet, line. */
public final class LineTest {
    private static final int[] NOBODY = {-1, 2, 7, Integer.MIN_VALUE, Integer.MAX_VALUE};

    public static void main(String[] args) {
        nobodysLine();
        emptyLine();
        lose();
        twice();
        twiceKeepsTheOrder();
        swap();
        insert();
        alter();
        packet();
        fullLine();
        numberOfALostPacketIsUsedUp();
        Check.end();
    }

    private static void checkRow(String what, SecurePair pair, int e, int k, long... row) {
        for (int i = 0; i < 6; i++) {
            Check.same(what + ", part " + i + " of packet " + k, pair.packet(e, k, i), row[i]);
        }
    }

    /** A line to e that holds packets of the kinds 1, 2, .. n, in this order, w ten times and tag a hundred times it. */
    private static SecurePair withPackets(int e, int n) {
        SecurePair pair = new SecurePair();
        for (int kind = n; kind >= 1; kind--) {
            pair.insert(e, kind, kind * 10L, kind * 100L);
        }
        return pair;
    }

    private static void nobodysLine() {
        SecurePair pair = withPackets(0, 3);
        String before = Pairs.view(pair);
        for (int e : NOBODY) {
            Check.no("lose(" + e + ")", pair.lose(e));
            Check.no("twice(" + e + ")", pair.twice(e));
            Check.no("swap(" + e + ")", pair.swap(e));
            Check.no("insert(" + e + ")", pair.insert(e, 1, 1, 1));
            Check.no("alter(" + e + ")", pair.alter(e, 0, 1));
            Check.same("line(" + e + ")", pair.line(e), -1);
            Check.same("packet(" + e + ")", pair.packet(e, 0, 0), 0);
        }
        Check.unchanged("calls for no endpoint", pair, before);
    }

    private static void emptyLine() {
        SecurePair pair = new SecurePair();
        String before = Pairs.view(pair);
        for (int e = 0; e < 2; e++) {
            Check.no("lose of nothing", pair.lose(e));
            Check.no("twice of nothing", pair.twice(e));
            Check.no("swap of nothing", pair.swap(e));
            Check.no("alter of nothing", pair.alter(e, 0, 1));
            Check.same("deliver of nothing", pair.deliver(e), 0);
            Check.same("packet of nothing", pair.packet(e, 0, 0), 0);
        }
        Check.unchanged("calls on empty lines", pair, before);
    }

    private static void lose() {
        for (int e = 0; e < 2; e++) {
            SecurePair pair = withPackets(e, 3);
            Check.yes("lose", pair.lose(e));
            Check.same("line after lose", pair.line(e), 2);
            Check.same("the other line", pair.line(1 - e), 0);
            checkRow("after lose", pair, e, 0, 2, 20, 0, 0, 0, 200);
            checkRow("after lose", pair, e, 1, 3, 30, 0, 0, 0, 300);
            checkRow("after lose", pair, e, 2, 0, 0, 0, 0, 0, 0);
            Check.same("a lost packet is not received", pair.state(e, 1), 0);
        }
    }

    private static void twice() {
        SecurePair pair = new SecurePair();
        pair.offer(0, 10, 19);
        pair.begin(0);
        pair.alter(1, 4, 77);
        pair.alter(1, 5, -3);
        Check.yes("twice", pair.twice(1));
        Check.same("line after twice", pair.line(1), 2);
        checkRow("twice", pair, 1, 0, 20, 0, 10, 19, 77, -3);
        checkRow("twice", pair, 1, 1, 20, 0, 10, 19, 77, -3);
        pair.alter(1, 1, 5);
        checkRow("one of two is altered", pair, 1, 0, 20, 5, 10, 19, 77, -3);
        checkRow("the other is not", pair, 1, 1, 20, 0, 10, 19, 77, -3);
    }

    private static void twiceKeepsTheOrder() {
        SecurePair pair = withPackets(0, 3);
        pair.twice(0);
        int[] kinds = {1, 1, 2, 3};
        for (int k = 0; k < 4; k++) {
            Check.same("kind after twice", pair.packet(0, k, 0), kinds[k]);
        }
        SecurePair nearlyFull = withPackets(1, 15);
        Check.yes("twice with 15", nearlyFull.twice(1));
        String before = Pairs.view(nearlyFull);
        Check.same("16 then", nearlyFull.line(1), 16);
        Check.no("twice with 16", nearlyFull.twice(1));
        Check.unchanged("twice with 16", nearlyFull, before);
        Check.same("the last of 16", nearlyFull.packet(1, 15, 5), 1500);
    }

    private static void swap() {
        SecurePair pair = new SecurePair();
        pair.offer(0, 10, 19);
        pair.begin(0);
        pair.alter(1, 4, 77);
        pair.insert(1, 9, 8, 7);
        Check.yes("swap", pair.swap(1));
        checkRow("swap", pair, 1, 0, 20, 0, 10, 19, 77, 0);
        checkRow("swap", pair, 1, 1, 9, 8, 0, 0, 0, 7);
        SecurePair three = withPackets(0, 3);
        three.swap(0);
        Check.same("swap leaves the third", three.packet(0, 2, 0), 3);
        SecurePair one = withPackets(0, 1);
        String before = Pairs.view(one);
        Check.no("swap of one", one.swap(0));
        Check.unchanged("swap of one", one, before);
        Check.yes("swap of 16", withPackets(1, 16).swap(1));
    }

    private static void insert() {
        SecurePair pair = new SecurePair();
        pair.offer(0, 10, 19);
        pair.begin(0);
        pair.alter(1, 4, 77);
        Check.yes("insert", pair.insert(1, -5, Long.MIN_VALUE, Long.MAX_VALUE));
        checkRow("insert", pair, 1, 0, -5, Long.MIN_VALUE, 0, 0, 0, Long.MAX_VALUE);
        checkRow("behind the inserted one", pair, 1, 1, 20, 0, 10, 19, 77, 0);
        Check.same("insert is not sent", pair.state(0, 0), 1);
        Check.same("insert goes to one line", pair.line(0), 0);
        SecurePair nearlyFull = withPackets(0, 15);
        Check.yes("insert with 15", nearlyFull.insert(0, Integer.MAX_VALUE, 0, 0));
        String before = Pairs.view(nearlyFull);
        Check.no("insert with 16", nearlyFull.insert(0, 1, 0, 0));
        Check.unchanged("insert with 16", nearlyFull, before);
        Check.same("the last of 16", nearlyFull.packet(0, 15, 0), 15);
    }

    private static void alter() {
        for (int v : new int[] {1, -1, 0, Integer.MIN_VALUE, Integer.MAX_VALUE, 12345}) {
            for (int what = 0; what < 6; what++) {
                SecurePair pair = new SecurePair();
                pair.offer(1, 10, 19);
                pair.begin(1);
                pair.twice(0);
                long[] row = {20, 0, 10, 19, 0, 0};
                Check.yes("alter", pair.alter(0, what, v));
                row[what] ^= v;
                checkRow("alter(0, " + what + ", " + v + ")", pair, 0, 0, row);
                checkRow("behind the altered one", pair, 0, 1, 20, 0, 10, 19, 0, 0);
                pair.alter(0, what, v);
                checkRow("altered twice", pair, 0, 0, 20, 0, 10, 19, 0, 0);
            }
        }
        SecurePair pair = withPackets(0, 2);
        String before = Pairs.view(pair);
        for (int what : new int[] {-1, 6, 7, Integer.MIN_VALUE, Integer.MAX_VALUE}) {
            Check.no("alter of " + what, pair.alter(0, what, 1));
        }
        Check.unchanged("alter of what is not there", pair, before);
    }

    private static void packet() {
        SecurePair pair = withPackets(0, 2);
        for (int k : new int[] {-1, 2, 16, 100, Integer.MIN_VALUE, Integer.MAX_VALUE}) {
            checkRow("no such packet", pair, 0, k, 0, 0, 0, 0, 0, 0);
        }
        for (int what : new int[] {-1, 6, 12, Integer.MIN_VALUE, Integer.MAX_VALUE}) {
            Check.same("no such part", pair.packet(0, 0, what), 0);
            Check.same("no such part", pair.packet(0, 1, what), 0);
        }
        Check.same("packet of the other line", pair.packet(1, 0, 0), 0);
        pair.lose(0);
        pair.lose(0);
        checkRow("packet of an emptied line", pair, 0, 0, 0, 0, 0, 0, 0, 0);
    }

    private static void fullLine() {
        SecurePair pair = new SecurePair();
        for (int k = 0; k < 16; k++) {
            Check.same("line", pair.line(1), k);
            Check.yes("insert", pair.insert(1, 100 + k, 0, 0));
        }
        Check.same("a full line", pair.line(1), 16);
        for (int k = 0; k < 16; k++) {
            Check.same("packets in a full line", pair.packet(1, k, 0), 115 - k);
        }
    }

    private static void numberOfALostPacketIsUsedUp() {
        SecurePair pair = new SecurePair();
        Pairs.fillLine(pair, 1);
        Check.same("begin into a full line", pair.begin(0), 1);
        Check.same("line", pair.line(1), 16);
        Check.same("the last packet is no INIT", pair.packet(1, 15, 0), 2);
        Check.same("number used up", pair.state(0, 0), 1);
        Check.same("phase", pair.phase(0), 1);
        pair.lose(1);
        Check.yes("leave", pair.leave(0, 6));
        Check.same("into the room that was made", pair.packet(1, 15, 0), 1);
        Check.same("number", pair.state(0, 0), 2);
    }
}
