/** Promises 2 to 5: offer, secret, host, trust. */
public final class SettingsTest {
    private static final int GREATEST = 2147483645;

    public static void main(String[] args) {
        listsThatAreNone();
        listsThatAreSome();
        offerCountsFromTheNextInit();
        firstOfTheClientsIsChosen();
        secretRange();
        secretCountsFromTheNextInit();
        hostAnswersItsPart();
        hostCountsAtOnce();
        trust();
        trustCountsAtOnce();
        Check.end();
    }

    private static boolean isListByText(int list) {
        String digits = Integer.toString(list, 8);
        return list > 0 && digits.length() <= 3 && digits.matches("[1-4]+") && digits.chars().distinct().count() == digits.length();
    }

    private static void listsThatAreNone() {
        SecurePair pair = new SecurePair();
        String before = Pairs.view(pair);
        int[] wrong = {0, -1, 5, 8, 9, 65, 64, 512, 513, 668, Integer.MIN_VALUE, Integer.MAX_VALUE, 1 << 30, 585, -9};
        for (int list : wrong) {
            Check.no("offer of ciphers " + list, pair.offer(0, list, 1));
            Check.no("offer of tags " + list, pair.offer(1, 1, list));
        }
        for (int e : new int[] {-1, 2, Integer.MIN_VALUE, Integer.MAX_VALUE}) {
            Check.no("offer by " + e, pair.offer(e, 1, 1));
        }
        Check.unchanged("a refused offer", pair, before);
        pair.offer(0, 2, 3);
        pair.offer(0, 4, 9);
        pair.offer(0, 9, 4);
        pair.begin(0);
        Check.same("ciphers after a refused offer", pair.packet(1, 0, 2), 2);
        Check.same("tags after a refused offer", pair.packet(1, 0, 3), 3);
    }

    private static void listsThatAreSome() {
        for (int list = -10; list < 700; list++) {
            SecurePair pair = new SecurePair();
            boolean due = isListByText(list);
            Check.same("offer(0, " + list + ", 1)", pair.offer(0, list, 1) ? 1 : 0, due ? 1 : 0);
            Check.same("offer(1, 1, " + list + ")", pair.offer(1, 1, list) ? 1 : 0, due ? 1 : 0);
            pair.begin(0);
            pair.begin(1);
            Check.same("ciphers told", pair.packet(1, 0, 2), due ? list : 1);
            Check.same("tags told", pair.packet(0, 0, 3), due ? list : 1);
        }
    }

    private static void offerCountsFromTheNextInit() {
        SecurePair pair = new SecurePair();
        pair.begin(0);
        pair.offer(0, 2, 2);
        Check.same("the INIT that was sent stays", pair.packet(1, 0, 2), 1);
        Pairs.settle(pair);
        Check.same("both ready with what was offered then", pair.phase(0) * 10 + pair.phase(1), 44);
        Check.same("cipher of the INIT that was sent", pair.state(0, 2), 1);
        pair.offer(1, 2, 2);
        pair.begin(0);
        Pairs.settle(pair);
        Check.same("cipher offered since", pair.state(0, 2), 2);
        Check.same("tag kind offered since", pair.state(1, 3), 2);
    }

    private static void firstOfTheClientsIsChosen() {
        int[] lists = {1, 2, 4, 10, 17, 19, 26, 83, 209, 282, 0123, 0321, 0412};
        for (int client : lists) {
            for (int server : lists) {
                SecurePair pair = new SecurePair();
                pair.offer(0, client, server);
                pair.offer(1, server, client);
                pair.begin(1);
                Pairs.settle(pair);
                int cipher = firstShared(client, server);
                int tag = firstShared(server, client);
                String what = "offers " + Integer.toOctalString(client) + " and " + Integer.toOctalString(server);
                Check.same(what, pair.phase(0), cipher == 0 ? 5 + 8 * 3 : 4);
                if (cipher != 0) {
                    Check.same(what + ": the client's cipher", pair.state(0, 2), cipher);
                    Check.same(what + ": the server's cipher", pair.state(1, 2), cipher);
                    Check.same(what + ": the client's tag kind", pair.state(0, 3), tag);
                    Check.same(what + ": the server's tag kind", pair.state(1, 3), tag);
                }
            }
        }
    }

    private static int firstShared(int list, int other) {
        String digits = new StringBuilder(Integer.toOctalString(list)).reverse().toString();
        for (char digit : digits.toCharArray()) {
            if (Integer.toOctalString(other).indexOf(digit) >= 0) {
                return digit - '0';
            }
        }
        return 0;
    }

    private static void secretRange() {
        SecurePair pair = new SecurePair();
        for (int secret : new int[] {0, -1, GREATEST + 1, Integer.MAX_VALUE, Integer.MIN_VALUE}) {
            Check.no("secret " + secret, pair.secret(0, secret));
            Check.no("secret " + secret, pair.secret(1, secret));
            Check.same("host " + secret, pair.host(secret), 0);
        }
        Check.no("secret of -1", pair.secret(-1, 1));
        Check.no("secret of 2", pair.secret(2, 1));
        pair.begin(0);
        Pairs.settle(pair);
        Check.same("the session after refused secrets", pair.session(0), new Agreed().session());
        for (int secret : new int[] {1, 2, 77, GREATEST}) {
            SecurePair other = new SecurePair();
            Check.yes("secret " + secret, other.secret(0, secret));
            Check.yes("secret " + secret, other.secret(1, secret));
            Check.same("host " + secret, other.host(secret), Crypto.power(7, secret));
            other.begin(0);
            Pairs.settle(other);
            Agreed agreed = new Agreed();
            agreed.clientSecret = secret;
            agreed.serverSecret = secret;
            agreed.hostSecret = secret;
            Check.same("session with the secrets " + secret, other.session(0), agreed.session());
            Check.same("session with the secrets " + secret, other.session(1), agreed.session());
        }
    }

    private static void secretCountsFromTheNextInit() {
        SecurePair pair = new SecurePair();
        pair.begin(0);
        pair.begin(1);
        pair.secret(0, 100);
        pair.secret(1, 200);
        Pairs.settle(pair);
        Agreed first = new Agreed();
        Check.same("session with the secrets of the INITs", pair.session(0), first.session());
        pair.begin(1);
        pair.deliver(0);
        pair.secret(0, 5);
        pair.deliver(1);
        Check.same("share from the next INIT on", unmasked(pair, first, 1), Crypto.power(7, 100));
        pair.deliver(1);
        Check.same("the server's share from the next INIT on",
                pair.packet(0, 0, 2) ^ first.mask(0, pair.state(0, 1), 2), Crypto.power(7, 200));
        Pairs.settle(pair);
        Check.same("both ready", pair.phase(0) * 10 + pair.phase(1), 44);
    }

    private static long unmasked(SecurePair pair, Agreed agreed, int e) {
        return pair.packet(e, 0, 1) ^ agreed.mask(e, pair.state(e, 1), 1);
    }

    private static void hostAnswersItsPart() {
        SecurePair pair = new SecurePair();
        Check.same("host(1)", pair.host(1), 7);
        Check.same("host(5)", pair.host(5), 16807);
        Check.same("host(77)", pair.host(77), 1330624069);
        Check.same("host(0)", pair.host(0), 0);
        pair.begin(0);
        pair.deliver(1);
        pair.deliver(0);
        pair.deliver(1);
        Check.same("the part after a refused host", pair.packet(0, 0, 1), 1330624069);
    }

    private static void hostCountsAtOnce() {
        SecurePair pair = Pairs.sharing();
        pair.host(9);
        pair.deliver(1);
        Check.same("the part of the REPLY", pair.packet(0, 0, 1), Crypto.power(7, 9));
        pair.host(10);
        Pairs.settle(pair);
        Check.same("a later host does not touch the REPLY that was sent", pair.phase(0), 4);
    }

    private static void trust() {
        int[] parts = {16807, 5, -1, 0, Integer.MIN_VALUE, 16806};
        for (int part : parts) {
            SecurePair pair = new SecurePair();
            pair.trust(part);
            pair.begin(0);
            Pairs.settle(pair);
            boolean good = part == 16807 || part == 0;
            Check.same("phase of the client that trusts " + part, pair.phase(0), good ? 4 : 5 + 8 * 9);
            Check.same("phase of the server then", pair.phase(1), good ? 4 : 5 + 8 * 9);
            Check.same("session of a client that trusts " + part, pair.session(0), good ? new Agreed().session() : 0);
        }
        SecurePair pair = new SecurePair();
        pair.trust(5);
        pair.trust(0);
        pair.begin(0);
        Pairs.settle(pair);
        Check.same("trust taken back", pair.phase(0), 4);
    }

    private static void trustCountsAtOnce() {
        SecurePair pair = Pairs.sharing();
        pair.deliver(1);
        pair.trust(8);
        pair.deliver(0);
        Check.same("trust set while the REPLY was on its way", pair.phase(0), 5 + 8 * 9);
        SecurePair ready = Pairs.ready();
        ready.trust(8);
        Check.same("a session that is ready goes on", ready.phase(0), 4);
        ready.begin(0);
        Pairs.settle(ready);
        Check.same("but not over new keys", ready.phase(0), 5 + 8 * 9);
    }
}
