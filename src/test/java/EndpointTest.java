/** Promises 12 and 18 to 20: leave, phase, session, state. */
public final class EndpointTest {
    private static final int[] NOBODY = {-1, 2, Integer.MIN_VALUE, Integer.MAX_VALUE};

    public static void main(String[] args) {
        nobody();
        leaveWhenNew();
        leaveWhenReady();
        leaveInEveryPhase();
        reasonsKeepTheirSign();
        states();
        sessions();
        Check.end();
    }

    private static void nobody() {
        SecurePair pair = Pairs.connected();
        String before = Pairs.view(pair);
        for (int e : NOBODY) {
            Check.no("leave(" + e + ")", pair.leave(e, 1));
            Check.same("phase(" + e + ")", pair.phase(e), -1);
            Check.same("session(" + e + ")", pair.session(e), 0);
            for (int what = 0; what < 4; what++) {
                Check.same("state(" + e + ")", pair.state(e, what), -1);
            }
            Check.same("channel(" + e + ")", pair.channel(e, 0), -1);
        }
        Check.unchanged("calls for no endpoint", pair, before);
    }

    private static void leaveWhenNew() {
        for (int e = 0; e < 2; e++) {
            SecurePair pair = new SecurePair();
            Check.yes("leave", pair.leave(e, 11));
            Check.same("phase", pair.phase(e), 5 + 8 * 11);
            Check.same("DISCONNECT", pair.packet(1 - e, 0, 0), 1);
            Check.same("its reason", pair.packet(1 - e, 0, 1), 11);
            for (int what = 2; what < 6; what++) {
                Check.same("nothing else in it", pair.packet(1 - e, 0, what), 0);
            }
            Check.same("number", pair.state(e, 0), 1);
            String before = Pairs.view(pair);
            Check.no("leave when dead", pair.leave(e, 12));
            Check.unchanged("leave when dead", pair, before);
            Check.same("deliver", pair.deliver(1 - e), 1);
            Check.same("phase of the other", pair.phase(1 - e), 5 + 8 * 11);
            Check.same("nothing is answered", pair.line(e), 0);
            Check.no("leave of the other", pair.leave(1 - e, 1));
        }
    }

    private static void leaveWhenReady() {
        SecurePair pair = Pairs.ready();
        Check.yes("leave", pair.leave(1, -2));
        new Agreed().checkPacket("DISCONNECT with keys", pair, 0, 0, 0, 1, -2, 0, 0, 0);
        pair.deliver(0);
        Check.same("phase of the server", pair.phase(1), 5 - 16);
        Check.same("phase of the client", pair.phase(0), 5 - 16);
    }

    private static void leaveInEveryPhase() {
        SecurePair offering = new SecurePair();
        offering.begin(0);
        Check.yes("leave when offering", offering.leave(0, 1));
        SecurePair sharing = Pairs.sharing();
        Check.yes("leave when sharing", sharing.leave(0, 1));
        sharing.deliver(1);
        Check.yes("leave when turning", sharing.leave(1, 0));
        Check.same("reason 0", sharing.phase(1), 5);
        new Agreed().checkPacket("DISCONNECT behind NEWKEYS", sharing, 0, 2, 0, 1, 0, 0, 0, 0);
    }

    private static void reasonsKeepTheirSign() {
        for (int reason : new int[] {0, 1, -1, Integer.MAX_VALUE, Integer.MIN_VALUE}) {
            SecurePair pair = new SecurePair();
            pair.leave(0, reason);
            pair.deliver(1);
            Check.same("reason " + reason, pair.phase(0), 5 + 8L * reason);
            Check.same("reason " + reason + ", told", pair.phase(1), 5 + 8L * reason);
        }
        long told = 0x0123456789abcdefL;
        SecurePair pair = new SecurePair();
        pair.insert(0, 1, told, 0);
        pair.deliver(0);
        Check.same("a told reason is a long", pair.phase(0), 5 + 8 * told);
        Check.same("nothing is sent", pair.line(1), 0);
    }

    private static void states() {
        SecurePair pair = new SecurePair();
        pair.offer(0, 3, 4);
        pair.offer(1, 3, 4);
        pair.begin(0);
        checkState("the client has sent INIT", pair, 0, 1, 0, 0, 0);
        pair.deliver(1);
        checkState("the server has both INITs", pair, 1, 1, 1, 0, 0);
        pair.deliver(0);
        checkState("the client has sent SHARE", pair, 0, 2, 1, 0, 0);
        pair.deliver(1);
        checkState("the server has sent NEWKEYS", pair, 1, 0, 2, 3, 4);
        pair.deliver(0);
        checkState("the client has sent NEWKEYS", pair, 0, 0, 2, 3, 4);
        pair.deliver(0);
        checkState("the client is ready", pair, 0, 0, 0, 3, 4);
        pair.deliver(1);
        checkState("the server is ready", pair, 1, 0, 0, 3, 4);
        pair.open(0);
        checkState("the client has opened", pair, 0, 1, 0, 3, 4);
        pair.deliver(1);
        checkState("the server has confirmed", pair, 1, 1, 1, 3, 4);
        for (int what : new int[] {-1, 4, 5, Integer.MIN_VALUE, Integer.MAX_VALUE}) {
            Check.same("state(0, " + what + ")", pair.state(0, what), -1);
        }
    }

    private static void checkState(String what, SecurePair pair, int e, int... due) {
        for (int i = 0; i < 4; i++) {
            Check.same(what + ": state " + i, pair.state(e, i), due[i]);
        }
    }

    private static void sessions() {
        long due = new Agreed().session();
        Check.same("the session as it was told once", due, -6704468527725812602L);
        SecurePair pair = Pairs.sharing();
        Check.same("none when sharing", pair.session(0), 0);
        Check.same("none when sharing", pair.session(1), 0);
        pair.deliver(1);
        Check.same("the server has made H", pair.session(1), due);
        Check.same("the client has not", pair.session(0), 0);
        pair.deliver(0);
        Check.same("the client has made H", pair.session(0), due);
        Pairs.settle(pair);
        pair.secret(0, 99);
        pair.begin(1);
        Pairs.settle(pair);
        Check.same("the first H stays the session", pair.session(0), due);
        Check.same("the first H stays the session", pair.session(1), due);
        pair.leave(0, 1);
        pair.deliver(1);
        Check.same("also when dead", pair.session(1), due);
    }
}
