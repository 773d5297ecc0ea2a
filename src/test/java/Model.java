import java.util.ArrayDeque;
import java.util.ArrayList;
import java.util.Deque;
import java.util.List;

/**
 * The document once more, in another form than the program: each sentence as a step over lists and queues,
 * with no thought for room or speed. Calls that throw answer the exception's name instead.
 */
final class Model {
    private static final int NEW = 0;
    private static final int OFFERING = 1;
    private static final int SHARING = 2;
    private static final int TURNING = 3;
    private static final int READY = 4;
    private static final int DEAD = 5;

    static final String NO_INDEX = "IndexOutOfBoundsException";
    static final String NO_STATE = "IllegalStateException";
    static final String NO_ARGUMENT = "IllegalArgumentException";
    static final String NOT_SUPPORTED = "UnsupportedOperationException";

    /** kind, w, x, y, z, tag. */
    private final List<List<long[]>> lines = List.of(new ArrayList<>(), new ArrayList<>());
    private final Side[] sides = {new Side(0, 2), new Side(1, 3)};
    private long hostSecret = 5;
    private long trusted = 0;

    private static final class DirectionKeys {
        long cipherKey;
        long tagKey;
        long cipher;
        long tagKind;
    }

    private static final class Place {
        int state;
        long peer;
        long window;
        long room;
        int readSince;
        final Deque<Integer> inbox = new ArrayDeque<>();
    }

    private static final class Side {
        final int e;
        final Place[] places = {new Place(), new Place(), new Place()};
        int phase = NEW;
        long reason;
        int sent;
        int received;
        int inits;
        int ciphers = 1;
        int tags = 1;
        long secretSet;
        long secretUsed;
        long[] ownInit;
        long[] otherInit;
        long cipher;
        long tagKind;
        long k;
        long h;
        Long session;
        DirectionKeys sending;
        DirectionKeys receiving;

        Side(int e, int secret) {
            this.e = e;
            secretSet = secret;
        }
    }

    private static boolean there(int e) {
        return e == 0 || e == 1;
    }

    private static List<Integer> digits(long list) {
        List<Integer> found = new ArrayList<>();
        if (list <= 0) {
            return null;
        }
        for (char digit : new StringBuilder(Long.toString(list, 8)).reverse().toString().toCharArray()) {
            int number = digit - '0';
            if (number < 1 || number > 4 || found.contains(number)) {
                return null;
            }
            found.add(number);
        }
        return found.size() > 3 ? null : found;
    }

    private static long firstCommon(long mine, long others) {
        List<Integer> first = digits(mine);
        List<Integer> second = digits(others);
        if (first == null || second == null) {
            return 0;
        }
        for (Integer number : first) {
            if (second.contains(number)) {
                return number;
            }
        }
        return 0;
    }

    Object offer(int e, int ciphers, int tags) {
        if (!there(e) || digits(ciphers) == null || digits(tags) == null) {
            return 0L;
        }
        sides[e].ciphers = ciphers;
        sides[e].tags = tags;
        return 1L;
    }

    Object secret(int e, int secret) {
        if (!there(e) || secret < 1 || secret > 2147483645) {
            return 0L;
        }
        sides[e].secretSet = secret;
        return 1L;
    }

    Object host(int secret) {
        if (secret < 1 || secret > 2147483645) {
            return 0L;
        }
        hostSecret = secret;
        return Crypto.power(7, secret);
    }

    void trust(int part) {
        trusted = part;
    }

    private void send(Side side, long kind, long w, long x, long y, long z) {
        long[] packet = {kind, w, x, y, z, 0};
        DirectionKeys keys = side.sending;
        if (keys != null) {
            packet[5] = Crypto.chain(keys.tagKey, keys.tagKind, side.sent, kind, w, x, y, z);
            for (int i = 1; i <= 4; i++) {
                packet[i] ^= Crypto.chain(keys.cipherKey, keys.cipher, side.sent, i);
            }
        }
        side.sent++;
        List<long[]> line = lines.get(1 - side.e);
        if (line.size() < 16) {
            line.add(packet);
        }
    }

    private void fail(Side side, long reason) {
        send(side, 1, reason, 0, 0, 0);
        side.phase = DEAD;
        side.reason = reason;
    }

    private void begins(Side side) {
        side.ownInit = new long[] {side.inits, side.ciphers, side.tags};
        side.inits++;
        side.secretUsed = side.secretSet;
        send(side, 20, side.ownInit[0], side.ownInit[1], side.ownInit[2], 0);
        side.phase = OFFERING;
    }

    Object begin(int e) {
        if (!there(e)) {
            return NO_INDEX;
        }
        if (sides[e].phase != NEW && sides[e].phase != READY) {
            return NO_STATE;
        }
        begins(sides[e]);
        return (long) sides[e].inits;
    }

    Object deliver(int e) {
        if (!there(e)) {
            return NO_INDEX;
        }
        if (lines.get(e).isEmpty()) {
            return 0L;
        }
        long[] packet = lines.get(e).remove(0);
        Side side = sides[e];
        if (side.phase == DEAD) {
            return -1L;
        }
        int number = side.received++;
        DirectionKeys keys = side.receiving;
        if (keys != null) {
            for (int i = 1; i <= 4; i++) {
                packet[i] ^= Crypto.chain(keys.cipherKey, keys.cipher, number, i);
            }
            long tag = Crypto.chain(keys.tagKey, keys.tagKind, number, packet[0], packet[1], packet[2], packet[3], packet[4]);
            if (tag != packet[5]) {
                fail(side, 5);
                return packet[0];
            }
        }
        take(side, packet);
        return packet[0];
    }

    private void take(Side side, long[] packet) {
        long kind = packet[0];
        boolean keyed = side.receiving != null;
        if (kind == 1) {
            side.phase = DEAD;
            side.reason = packet[1];
        } else if (kind == 20 && (side.phase == NEW || side.phase == READY || side.phase == OFFERING)) {
            takeInit(side, packet);
        } else if (kind == 30 && side.e == 1 && side.phase == SHARING) {
            takeShare(side, packet[1]);
        } else if (kind == 31 && side.e == 0 && side.phase == SHARING) {
            takeReply(side, packet);
        } else if (kind == 21 && side.phase == TURNING) {
            side.receiving = keysOf(side, 1 - side.e);
            side.received = 0;
            side.phase = READY;
        } else if (kind == 90 && keyed) {
            takeOpen(side, packet);
        } else if (keyed && (kind >= 91 && kind <= 94 || kind == 97)) {
            if (!takeOnChannel(side, packet)) {
                fail(side, 7);
            }
        } else if (kind != 2 || !keyed) {
            fail(side, 2);
        }
    }

    private void takeInit(Side side, long[] packet) {
        if (side.phase != OFFERING) {
            begins(side);
        }
        side.otherInit = new long[] {packet[1], packet[2], packet[3]};
        long[] clients = side.e == 0 ? side.ownInit : side.otherInit;
        long[] servers = side.e == 0 ? side.otherInit : side.ownInit;
        side.cipher = firstCommon(clients[1], servers[1]);
        side.tagKind = firstCommon(clients[2], servers[2]);
        if (side.cipher == 0 || side.tagKind == 0) {
            fail(side, 3);
            return;
        }
        side.phase = SHARING;
        if (side.e == 0) {
            send(side, 30, Crypto.power(7, side.secretUsed), 0, 0, 0);
        }
    }

    private static boolean goodShare(long share) {
        return share >= 2 && share <= Crypto.P - 2;
    }

    private static long hashOf(Side side, long part, long clientShare, long serverShare) {
        long[] c = side.e == 0 ? side.ownInit : side.otherInit;
        long[] s = side.e == 0 ? side.otherInit : side.ownInit;
        return Crypto.chain(c[0], c[1], c[2], s[0], s[1], s[2], part, clientShare, serverShare, side.k);
    }

    private void takeShare(Side side, long share) {
        if (!goodShare(share)) {
            fail(side, 3);
            return;
        }
        side.k = Crypto.power(share, side.secretUsed);
        long own = Crypto.power(7, side.secretUsed);
        long part = Crypto.power(7, hostSecret);
        side.h = hashOf(side, part, share, own);
        send(side, 31, part, own, Crypto.signatureR(side.h), Crypto.signatureS(side.h, hostSecret));
        turn(side);
    }

    private void takeReply(Side side, long[] packet) {
        if (!goodShare(packet[2])) {
            fail(side, 3);
            return;
        }
        if (trusted != 0 && trusted != packet[1]) {
            fail(side, 9);
            return;
        }
        side.k = Crypto.power(packet[2], side.secretUsed);
        side.h = hashOf(side, packet[1], Crypto.power(7, side.secretUsed), packet[2]);
        if (!Crypto.verifies(packet[1], packet[3], packet[4], side.h)) {
            fail(side, 4);
            return;
        }
        turn(side);
    }

    private void turn(Side side) {
        send(side, 21, 0, 0, 0, 0);
        if (side.session == null) {
            side.session = side.h;
        }
        side.sending = keysOf(side, side.e);
        side.sent = 0;
        side.phase = TURNING;
    }

    private static DirectionKeys keysOf(Side side, int sender) {
        DirectionKeys keys = new DirectionKeys();
        keys.cipherKey = Crypto.chain(side.k, side.h, 1 + sender, side.session);
        keys.tagKey = Crypto.chain(side.k, side.h, 3 + sender, side.session);
        keys.cipher = side.cipher;
        keys.tagKind = side.tagKind;
        return keys;
    }

    private static int leastFree(Side side) {
        for (int c = 0; c < 3; c++) {
            if (side.places[c].state == 0) {
                return c;
            }
        }
        return -1;
    }

    private void takeOpen(Side side, long[] packet) {
        int c = leastFree(side);
        if (c < 0) {
            send(side, 92, packet[1], 0, 0, 0);
            return;
        }
        Place place = side.places[c];
        place.state = 2;
        place.peer = packet[1];
        place.window = packet[2];
        place.room = 24;
        send(side, 91, packet[1], c, 24, 0);
    }

    private boolean takeOnChannel(Side side, long[] packet) {
        if (packet[1] < 0 || packet[1] > 2) {
            return false;
        }
        int c = (int) packet[1];
        Place place = side.places[c];
        boolean opening = place.state == 1;
        boolean connected = place.state == 2 || place.state == 3;
        switch ((int) packet[0]) {
            case 91:
                if (opening) {
                    place.state = 2;
                    place.peer = packet[2];
                    place.window = packet[3];
                }
                return opening;
            case 92:
                if (opening) {
                    side.places[c] = new Place();
                }
                return opening;
            case 93:
                if (connected && packet[2] >= 1 && packet[2] <= 1000) {
                    place.window += packet[2];
                    return true;
                }
                return false;
            case 94:
                return connected && takeBytes(place, packet[2], packet[3]);
            default:
                if (connected) {
                    if (place.state == 2) {
                        send(side, 97, place.peer, 0, 0, 0);
                    }
                    side.places[c] = new Place();
                }
                return connected;
        }
    }

    private static boolean takeBytes(Place place, long count, long bytes) {
        if (count < 1 || count > 8 || count > place.room) {
            return false;
        }
        place.room -= count;
        for (int i = (int) count - 1; i >= 0 && place.state == 2; i--) {
            place.inbox.addLast((int) (bytes >> 8 * i) & 0xff);
        }
        return true;
    }

    Object open(int e) {
        if (!there(e)) {
            return NO_INDEX;
        }
        Side side = sides[e];
        if (side.phase != READY) {
            return NO_STATE;
        }
        int c = leastFree(side);
        if (c < 0) {
            return NOT_SUPPORTED;
        }
        side.places[c].state = 1;
        side.places[c].room = 24;
        send(side, 90, c, 24, 0, 0);
        return (long) c;
    }

    private static boolean hasChannel(int e, int c) {
        return there(e) && c >= 0 && c <= 2;
    }

    Object write(int e, int c, long bytes, int n) {
        if (!hasChannel(e, c)) {
            return NO_INDEX;
        }
        Place place = sides[e].places[c];
        if (sides[e].phase != READY || place.state != 2) {
            return NO_STATE;
        }
        if (n < 1 || n > 8) {
            return NO_ARGUMENT;
        }
        long count = 0;
        long front = 0;
        for (int i = n - 1; i >= 0 && count < place.window; i--) {
            front = front << 8 | bytes >> 8 * i & 0xff;
            count++;
        }
        if (count > 0) {
            place.window -= count;
            send(sides[e], 94, place.peer, count, front, 0);
        }
        return count;
    }

    Object read(int e, int c) {
        if (!hasChannel(e, c)) {
            return NO_INDEX;
        }
        Place place = sides[e].places[c];
        long answer = -1;
        if (!place.inbox.isEmpty()) {
            answer = place.inbox.removeFirst();
            place.readSince++;
        }
        if (sides[e].phase == READY && place.state == 2 && place.readSince >= 12) {
            send(sides[e], 93, place.peer, place.readSince, 0, 0);
            place.room += place.readSince;
            place.readSince = 0;
        }
        return answer;
    }

    Object close(int e, int c) {
        if (!hasChannel(e, c)) {
            return NO_INDEX;
        }
        Place place = sides[e].places[c];
        if (sides[e].phase != READY || place.state != 2) {
            return NO_STATE;
        }
        long held = place.inbox.size();
        send(sides[e], 97, place.peer, 0, 0, 0);
        place.state = 3;
        place.inbox.clear();
        return held;
    }

    Object leave(int e, int reason) {
        if (!there(e) || sides[e].phase == DEAD) {
            return 0L;
        }
        fail(sides[e], reason);
        return 1L;
    }

    Object lose(int e) {
        if (line(e) < 1) {
            return 0L;
        }
        lines.get(e).remove(0);
        return 1L;
    }

    Object twice(int e) {
        if (line(e) < 1 || line(e) == 16) {
            return 0L;
        }
        lines.get(e).add(1, lines.get(e).get(0).clone());
        return 1L;
    }

    Object swap(int e) {
        if (line(e) < 2) {
            return 0L;
        }
        lines.get(e).add(1, lines.get(e).remove(0));
        return 1L;
    }

    Object insert(int e, int kind, long w, long tag) {
        if (!there(e) || line(e) == 16) {
            return 0L;
        }
        lines.get(e).add(0, new long[] {kind, w, 0, 0, 0, tag});
        return 1L;
    }

    Object alter(int e, int what, int v) {
        if (line(e) < 1 || what < 0 || what > 5) {
            return 0L;
        }
        lines.get(e).get(0)[what] ^= v;
        return 1L;
    }

    long phase(int e) {
        if (!there(e)) {
            return -1;
        }
        return sides[e].phase == DEAD ? DEAD + 8 * sides[e].reason : sides[e].phase;
    }

    long session(int e) {
        return there(e) && sides[e].session != null ? sides[e].session : 0;
    }

    long state(int e, int what) {
        if (!there(e)) {
            return -1;
        }
        DirectionKeys keys = sides[e].sending;
        switch (what) {
            case 0:
                return sides[e].sent;
            case 1:
                return sides[e].received;
            case 2:
                return keys == null ? 0 : keys.cipher;
            case 3:
                return keys == null ? 0 : keys.tagKind;
            default:
                return -1;
        }
    }

    long channel(int e, int c) {
        if (!hasChannel(e, c)) {
            return -1;
        }
        Place place = sides[e].places[c];
        return place.state + 4 * place.peer + 16L * place.inbox.size() + 1024 * place.room + 65536 * place.window;
    }

    long packet(int e, int k, int what) {
        if (k < 0 || k >= line(e) || what < 0 || what > 5) {
            return 0;
        }
        return lines.get(e).get(k)[what];
    }

    int line(int e) {
        return there(e) ? lines.get(e).size() : -1;
    }
}
