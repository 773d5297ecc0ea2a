/**
 * "A LINE to each endpoint holds at most 16 packets; one that is sent into a full line is lost (its number is
 * used up)": for everything that sends, the line stays as it was, and the sender goes on as if it had gone out.
 */
public final class FullLineTest {
    private static final Agreed AGREED = new Agreed();

    public static void main(String[] args) {
        init();
        initAndShareOfAnAnswer();
        shareIsTheSixteenth();
        replyAndNewKeys();
        newKeysIsTheSeventeenth();
        newKeysOfTheClient();
        disconnect();
        disconnectOfAFailure();
        open();
        confirmAndRefuse();
        data();
        window();
        closeAndItsAnswer();
        roomForOneMore();
        Check.end();
    }

    /** Fills the line to e, and answers what stands in it then. */
    private static String full(SecurePair pair, int e) {
        Pairs.fillLine(pair, e);
        Check.same("a full line", pair.line(e), 16);
        return row(pair, e);
    }

    private static String row(SecurePair pair, int e) {
        StringBuilder text = new StringBuilder();
        for (int k = 0; k < pair.line(e); k++) {
            for (int what = 0; what < 6; what++) {
                text.append(pair.packet(e, k, what)).append(' ');
            }
        }
        return text.toString();
    }

    private static void lost(String what, SecurePair pair, int to, String before, int number) {
        Check.same(what + " makes the line no longer", pair.line(to), 16);
        Check.yes(what + " leaves the line", row(pair, to).equals(before));
        Check.same(what + " uses its number up", pair.state(1 - to, 0), number);
    }

    private static void init() {
        for (int e = 0; e < 2; e++) {
            SecurePair pair = new SecurePair();
            String before = full(pair, 1 - e);
            Check.same("begin", pair.begin(e), 1);
            lost("INIT", pair, 1 - e, before, 1);
            Check.same("offering", pair.phase(e), 1);
        }
    }

    private static void initAndShareOfAnAnswer() {
        SecurePair pair = new SecurePair();
        pair.begin(1);
        String before = full(pair, 1);
        Check.same("deliver", pair.deliver(0), 20);
        lost("INIT and SHARE", pair, 1, before, 2);
        Check.same("sharing", pair.phase(0), 2);
    }

    private static void shareIsTheSixteenth() {
        for (int room = 1; room <= 2; room++) {
            SecurePair pair = new SecurePair();
            pair.begin(1);
            full(pair, 1);
            for (int i = 0; i < room; i++) {
                pair.lose(1);
            }
            pair.deliver(0);
            Check.same("line", pair.line(1), 16);
            Check.same("the last that found room", pair.packet(1, 15, 0), room == 1 ? 20 : 30);
            Check.same("numbers", pair.state(0, 0), 2);
        }
    }

    private static void replyAndNewKeys() {
        SecurePair pair = Pairs.sharing();
        String before = full(pair, 0);
        Check.same("deliver", pair.deliver(1), 30);
        lost("REPLY and NEWKEYS", pair, 0, before, 0);
        Check.same("turning", pair.phase(1), 3);
        Check.same("session", pair.session(1), AGREED.session());
        Check.same("cipher", pair.state(1, 2), 1);
    }

    private static void newKeysIsTheSeventeenth() {
        SecurePair pair = Pairs.sharing();
        full(pair, 0);
        pair.lose(0);
        pair.deliver(1);
        Check.same("line", pair.line(0), 16);
        Check.same("REPLY is the sixteenth", pair.packet(0, 15, 0), 31);
        Check.same("turning", pair.phase(1), 3);
        Check.same("the number begins anew", pair.state(1, 0), 0);
    }

    private static void newKeysOfTheClient() {
        SecurePair pair = Pairs.sharing();
        pair.deliver(1);
        String before = full(pair, 1);
        Check.same("deliver", pair.deliver(0), 31);
        lost("NEWKEYS", pair, 1, before, 0);
        Check.same("turning", pair.phase(0), 3);
        Check.same("cipher", pair.state(0, 2), 1);
    }

    private static void disconnect() {
        SecurePair pair = new SecurePair();
        String before = full(pair, 0);
        Check.yes("leave", pair.leave(1, 77));
        lost("DISCONNECT", pair, 0, before, 1);
        Check.same("dead", pair.phase(1), 5 + 8 * 77);
    }

    private static void disconnectOfAFailure() {
        SecurePair pair = Pairs.ready();
        String before = full(pair, 0);
        pair.insert(1, 2, 0, 0);
        pair.deliver(1);
        lost("DISCONNECT", pair, 0, before, 1);
        Check.same("dead", pair.phase(1), 5 + 8 * 5);
    }

    private static void open() {
        SecurePair pair = Pairs.ready();
        String before = full(pair, 1);
        Check.same("open", pair.open(0), 0);
        lost("OPEN", pair, 1, before, 1);
        Check.same("opening", pair.channel(0, 0), 1 + 1024 * 24);
    }

    private static void confirmAndRefuse() {
        SecurePair pair = Pairs.ready();
        for (int c = 0; c < 3; c++) {
            pair.open(0);
        }
        String before = full(pair, 0);
        pair.deliver(1);
        lost("CONFIRM", pair, 0, before, 1);
        Check.same("open", pair.channel(1, 0), 2 + 1024 * 24 + 65536 * 24);
        pair.open(1);
        pair.open(1);
        lost("OPEN", pair, 0, before, 3);
        pair.deliver(1);
        lost("REFUSE", pair, 0, before, 4);
        Check.same("it goes on", pair.phase(1), 4);
    }

    private static void data() {
        SecurePair pair = Pairs.connected();
        String before = full(pair, 1);
        Check.same("write", pair.write(0, 0, 1, 5), 5);
        lost("DATA", pair, 1, before, 2);
        Check.same("the window falls", pair.channel(0, 0), 2 + 1024 * 24 + 65536 * 19);
    }

    private static void window() {
        SecurePair pair = Pairs.connected();
        pair.write(0, 0, 1, 8);
        pair.write(0, 0, 1, 4);
        Pairs.settle(pair);
        String before = full(pair, 0);
        for (int i = 0; i < 12; i++) {
            pair.read(1, 0);
        }
        lost("WINDOW", pair, 0, before, 2);
        Check.same("the room grows", pair.channel(1, 0), 2 + 1024 * 24 + 65536 * 24);
        pair.read(1, 0);
        Check.same("it is not sent again", pair.state(1, 0), 2);
    }

    private static void closeAndItsAnswer() {
        SecurePair pair = Pairs.connected();
        String before = full(pair, 1);
        Check.same("close", pair.close(0, 0), 0);
        lost("CLOSE", pair, 1, before, 2);
        Check.same("closed here", pair.channel(0, 0), 3 + 1024 * 24 + 65536 * 24);
        SecurePair answering = Pairs.connected();
        answering.close(0, 0);
        String beforeAnswer = full(answering, 0);
        Check.same("deliver", answering.deliver(1), 97);
        lost("the answer", answering, 0, beforeAnswer, 2);
        Check.same("free", answering.channel(1, 0), 0);
        Check.same("it goes on", answering.phase(1), 4);
    }

    private static void roomForOneMore() {
        SecurePair pair = Pairs.ready();
        full(pair, 1);
        pair.lose(1);
        Check.same("15 are left", pair.line(1), 15);
        pair.open(0);
        Check.same("the sixteenth finds room", pair.line(1), 16);
        AGREED.checkPacket("OPEN", pair, 1, 15, 0, 90, 0, 24, 0, 0);
        String before = row(pair, 1);
        pair.open(0);
        lost("the seventeenth", pair, 1, before, 2);
        for (int i = 0; i < 15; i++) {
            pair.lose(1);
        }
        Check.same("the first comes through", pair.deliver(1), 90);
        Check.same("with its number", pair.phase(1), 4);
        pair.open(0);
        Check.same("the third has a number that is not the next", pair.deliver(1), 90);
        Check.same("so it fails", pair.phase(1), 5 + 8 * 5);
    }
}
