/**
 * A client and a server that agree on keys over a wire which others may touch,
 * and then carry bytes on channels. What each call promises stands in DOC.md.
 */
public final class SecurePair {
    private static final long MODULUS = 2147483647L;
    private static final long GENERATOR = 7L;
    private static final int EXPONENT_BITS = 63;
    private static final int GREATEST_SECRET = 2147483645;

    private static final int DISCONNECT = 1;
    private static final int IGNORE = 2;
    private static final int INIT = 20;
    private static final int NEWKEYS = 21;
    private static final int SHARE = 30;
    private static final int REPLY = 31;
    private static final int OPEN = 90;
    private static final int CONFIRM = 91;
    private static final int REFUSE = 92;
    private static final int WINDOW = 93;
    private static final int DATA = 94;
    private static final int CLOSE = 97;

    private static final int PHASE_NEW = 0;
    private static final int PHASE_OFFERING = 1;
    private static final int PHASE_SHARING = 2;
    private static final int PHASE_TURNING = 3;
    private static final int PHASE_READY = 4;
    private static final int PHASE_DEAD = 5;

    // What taking a packet comes to: TAKEN, or the reason with which the endpoint fails.
    private static final int TAKEN = 0;
    private static final int OUT_OF_PLACE = 2;
    private static final int NO_AGREEMENT = 3;
    private static final int BAD_SIGNATURE = 4;
    private static final int BAD_TAG = 5;
    private static final int BAD_CHANNEL_USE = 7;
    private static final int NOT_TRUSTED = 9;

    private static final int CHANNEL_FREE = 0;
    private static final int CHANNEL_OPENING = 1;
    private static final int CHANNEL_OPEN = 2;
    private static final int CHANNEL_CLOSED = 3;

    private static final int CHANNELS = 3;
    private static final int FULL_ROOM = 24;
    private static final int READ_BEFORE_WINDOW = 12;
    private static final int MOST_BYTES = 8;
    private static final int MOST_GROWTH = 1000;

    private static final int LINE_LIMIT = 16;
    private static final int PACKET_PARTS = 6;

    private static final int LIST_LIMIT = 3;
    private static final int GREATEST_CHOICE = 4;

    private static final int FROM_CLIENT = 1;
    private static final int FROM_SERVER = 2;

    private final Client client;
    private final Server server;

    public SecurePair() {
        Line toClient = new Line();
        Line toServer = new Line();
        client = new Client(toClient, toServer);
        server = new Server(toServer, toClient);
    }

    public boolean offer(int e, int ciphers, int tags) {
        Endpoint endpoint = endpointOf(e);
        if (endpoint == null || !isList(ciphers) || !isList(tags)) {
            return false;
        }
        endpoint.ciphers = ciphers;
        endpoint.tags = tags;
        return true;
    }

    public boolean secret(int e, int secret) {
        Endpoint endpoint = endpointOf(e);
        if (endpoint == null || !isSecret(secret)) {
            return false;
        }
        endpoint.nextSecret = secret;
        return true;
    }

    public int host(int secret) {
        if (!isSecret(secret)) {
            return 0;
        }
        server.hostSecret = secret;
        return (int) power(GENERATOR, secret);
    }

    public void trust(int part) {
        client.trusted = part;
    }

    public int begin(int e) throws IndexOutOfBoundsException, IllegalStateException {
        Endpoint endpoint = endpointOrThrow(e);
        if (!endpoint.mayStart()) {
            throw new IllegalStateException("neither new nor ready");
        }
        endpoint.start();
        return endpoint.initsSent;
    }

    public int deliver(int e) throws IndexOutOfBoundsException {
        Endpoint endpoint = endpointOrThrow(e);
        if (endpoint.arriving.size == 0) {
            return 0;
        }
        if (endpoint.phase == PHASE_DEAD) {
            endpoint.arriving.dropFirst();
            return -1;
        }
        return endpoint.receive();
    }

    public int open(int e) throws IndexOutOfBoundsException, IllegalStateException, UnsupportedOperationException {
        Endpoint endpoint = endpointOrThrow(e);
        if (endpoint.phase != PHASE_READY) {
            throw new IllegalStateException("not ready");
        }
        Channel free = endpoint.leastFree();
        if (free == null) {
            throw new UnsupportedOperationException("no channel is free");
        }
        endpoint.ask(free);
        return free.index;
    }

    public int write(int e, int c, long bytes, int n)
            throws IndexOutOfBoundsException, IllegalStateException, IllegalArgumentException {
        Endpoint endpoint = endpointOrThrow(e);
        Channel channel = usableOrThrow(endpoint, c);
        if (n < 1 || n > MOST_BYTES) {
            throw new IllegalArgumentException("not 1 to 8 bytes");
        }
        return endpoint.sendBytes(channel, bytes, n);
    }

    public int read(int e, int c) throws IndexOutOfBoundsException {
        Endpoint endpoint = endpointOrThrow(e);
        Channel channel = channelOrThrow(endpoint, c);
        int first = channel.takeByte();
        endpoint.makeRoom(channel);
        return first;
    }

    public int close(int e, int c) throws IndexOutOfBoundsException, IllegalStateException {
        Endpoint endpoint = endpointOrThrow(e);
        Channel channel = usableOrThrow(endpoint, c);
        return endpoint.shut(channel);
    }

    public boolean leave(int e, int reason) {
        Endpoint endpoint = endpointOf(e);
        if (endpoint == null || endpoint.phase == PHASE_DEAD) {
            return false;
        }
        endpoint.fail(reason);
        return true;
    }

    public boolean lose(int e) {
        Line line = lineTo(e);
        if (line == null || line.size == 0) {
            return false;
        }
        line.dropFirst();
        return true;
    }

    public boolean twice(int e) {
        Line line = lineTo(e);
        if (line == null || line.size == 0 || line.size == LINE_LIMIT) {
            return false;
        }
        line.doubleFirst();
        return true;
    }

    public boolean swap(int e) {
        Line line = lineTo(e);
        if (line == null || line.size < 2) {
            return false;
        }
        line.exchangeFirstTwo();
        return true;
    }

    public boolean insert(int e, int kind, long w, long tag) {
        Line line = lineTo(e);
        if (line == null || line.size == LINE_LIMIT) {
            return false;
        }
        line.putInFront(kind, w, tag);
        return true;
    }

    public boolean alter(int e, int what, int v) {
        Line line = lineTo(e);
        if (line == null || line.size == 0 || !isPart(what)) {
            return false;
        }
        line.rows[what] ^= v;
        return true;
    }

    public long phase(int e) {
        Endpoint endpoint = endpointOf(e);
        return endpoint == null ? -1 : endpoint.phase + 8 * endpoint.reason;
    }

    public long session(int e) {
        Endpoint endpoint = endpointOf(e);
        return endpoint == null ? 0 : endpoint.session;
    }

    public int state(int e, int what) {
        Endpoint endpoint = endpointOf(e);
        if (endpoint == null) {
            return -1;
        }
        switch (what) {
            case 0:
                return endpoint.outgoing.number;
            case 1:
                return endpoint.incoming.number;
            case 2:
                return endpoint.outgoing.cipher;
            case 3:
                return endpoint.outgoing.tagKind;
            default:
                return -1;
        }
    }

    public long channel(int e, int c) {
        Endpoint endpoint = endpointOf(e);
        Channel channel = endpoint == null ? null : endpoint.channelAt(c);
        return channel == null ? -1 : channel.summary();
    }

    public long packet(int e, int k, int what) {
        Line line = lineTo(e);
        if (line == null || k < 0 || k >= line.size || !isPart(what)) {
            return 0;
        }
        return line.rows[k * PACKET_PARTS + what];
    }

    public int line(int e) {
        Line line = lineTo(e);
        return line == null ? -1 : line.size;
    }

    private Endpoint endpointOf(int e) {
        if (e == 0) {
            return client;
        }
        return e == 1 ? server : null;
    }

    private Line lineTo(int e) {
        Endpoint endpoint = endpointOf(e);
        return endpoint == null ? null : endpoint.arriving;
    }

    private Endpoint endpointOrThrow(int e) {
        Endpoint endpoint = endpointOf(e);
        if (endpoint == null) {
            throw new IndexOutOfBoundsException("no such endpoint");
        }
        return endpoint;
    }

    private static Channel channelOrThrow(Endpoint endpoint, int c) {
        Channel channel = endpoint.channelAt(c);
        if (channel == null) {
            throw new IndexOutOfBoundsException("no such channel");
        }
        return channel;
    }

    private static Channel usableOrThrow(Endpoint endpoint, int c) {
        Channel channel = channelOrThrow(endpoint, c);
        if (!endpoint.mayUse(channel)) {
            throw new IllegalStateException("not ready, or the channel is not open");
        }
        return channel;
    }

    private static boolean isPart(int what) {
        return what >= 0 && what < PACKET_PARTS;
    }

    private static boolean isSecret(int secret) {
        return secret >= 1 && secret <= GREATEST_SECRET;
    }

    private static boolean isShare(long share) {
        return share >= 2 && share <= MODULUS - 2;
    }

    private static boolean isGroupNumber(long number) {
        return number >= 1 && number < MODULUS;
    }

    private static boolean isList(long list) {
        if (list < 1 || list >= 1L << 3 * LIST_LIMIT) {
            return false;
        }
        long rest = list;
        int seen = 0;
        for (int i = 0; i < LIST_LIMIT && rest != 0; i++) {
            int choice = (int) (rest & 7);
            if (choice < 1 || choice > GREATEST_CHOICE || (seen >> choice & 1) == 1) {
                return false;
            }
            seen |= 1 << choice;
            rest >>= 3;
        }
        return true;
    }

    private static boolean contains(long list, long choice) {
        for (int i = 0; i < LIST_LIMIT; i++) {
            if ((list >> 3 * i & 7) == choice) {
                return true;
            }
        }
        return false;
    }

    /** The first of one list that is among the other; 0 when none is, or one of them is no list. */
    private static int firstShared(long list, long other) {
        if (!isList(list) || !isList(other)) {
            return 0;
        }
        for (int i = 0; i < LIST_LIMIT; i++) {
            int choice = (int) (list >> 3 * i & 7);
            if (choice != 0 && contains(other, choice)) {
                return choice;
            }
        }
        return 0;
    }

    private static long mix(long a, long b) {
        long x = (a + 8191) * 6700417 ^ b;
        x ^= x >>> 30;
        x *= -4417276706812531889L;
        x ^= x >>> 28;
        return x;
    }

    private static long power(long base, long exponent) {
        long result = 1;
        long square = base % MODULUS;
        long rest = exponent;
        for (int bit = 0; bit < EXPONENT_BITS && rest > 0; bit++) {
            if ((rest & 1) == 1) {
                result = result * square % MODULUS;
            }
            square = square * square % MODULUS;
            rest >>= 1;
        }
        return result;
    }

    /** The number e of a signature of a value, which binds r to that value. */
    private static long challenge(long r, long value) {
        return mix(mix(0, r), value) >>> 34;
    }

    private static boolean verifies(long part, long r, long s, long value) {
        if (!isGroupNumber(part) || !isGroupNumber(r) || !isGroupNumber(s)) {
            return false;
        }
        return power(GENERATOR, s) == r * power(part, challenge(r, value)) % MODULUS;
    }

    private static final class Packet {
        int kind;
        long w;
        long x;
        long y;
        long z;
        long tag;
    }

    /** Flat rows in the order in which alter names the parts, so that no packet is ever made anew. */
    private static final class Line {
        final long[] rows = new long[LINE_LIMIT * PACKET_PARTS];
        int size;

        void add(Packet packet) {
            if (size >= LINE_LIMIT) {
                return;
            }
            int at = size * PACKET_PARTS;
            rows[at] = packet.kind;
            rows[at + 1] = packet.w;
            rows[at + 2] = packet.x;
            rows[at + 3] = packet.y;
            rows[at + 4] = packet.z;
            rows[at + 5] = packet.tag;
            size++;
        }

        void takeFirst(Packet into) {
            into.kind = (int) rows[0];
            into.w = rows[1];
            into.x = rows[2];
            into.y = rows[3];
            into.z = rows[4];
            into.tag = rows[5];
            dropFirst();
        }

        void dropFirst() {
            if (size > 0) {
                size--;
                System.arraycopy(rows, PACKET_PARTS, rows, 0, size * PACKET_PARTS);
            }
        }

        void doubleFirst() {
            if (size < LINE_LIMIT) {
                System.arraycopy(rows, 0, rows, PACKET_PARTS, size * PACKET_PARTS);
                size++;
            }
        }

        void putInFront(int kind, long w, long tag) {
            // Doubling leaves a row in front that nobody needs, which is written over.
            doubleFirst();
            rows[0] = kind;
            rows[1] = w;
            rows[2] = 0;
            rows[3] = 0;
            rows[4] = 0;
            rows[5] = tag;
        }

        void exchangeFirstTwo() {
            for (int part = 0; part < PACKET_PARTS; part++) {
                long first = rows[part];
                rows[part] = rows[part + PACKET_PARTS];
                rows[part + PACKET_PARTS] = first;
            }
        }
    }

    /** One direction as one endpoint sees it: the two ends of it change keys and numbers at different times. */
    private static final class Keys {
        boolean present;
        long cipherKey;
        long tagKey;
        int cipher;
        int tagKind;
        int number;

        void renew(Exchange exchange, long session, int direction) {
            long base = mix(mix(0, exchange.common), exchange.hash);
            cipherKey = mix(mix(base, direction), session);
            tagKey = mix(mix(base, direction + 2), session);
            cipher = exchange.cipher;
            tagKind = exchange.tagKind;
            present = true;
            number = 0;
        }

        boolean passes(Packet packet) {
            return !present || tagOf(packet) == packet.tag;
        }

        long tagOf(Packet packet) {
            if (!present) {
                return 0;
            }
            long tag = mix(mix(mix(mix(0, tagKey), tagKind), number), packet.kind);
            return mix(mix(mix(mix(tag, packet.w), packet.x), packet.y), packet.z);
        }

        /** Covering twice with the same number gives the same packet back. */
        void cover(Packet packet) {
            if (!present) {
                return;
            }
            long base = mix(mix(mix(0, cipherKey), cipher), number);
            packet.w ^= mix(base, 1);
            packet.x ^= mix(base, 2);
            packet.y ^= mix(base, 3);
            packet.z ^= mix(base, 4);
        }
    }

    private static final class Init {
        long count;
        long ciphers;
        long tags;

        void set(long count, long ciphers, long tags) {
            this.count = count;
            this.ciphers = ciphers;
            this.tags = tags;
        }

        long mixedInto(long chain) {
            return mix(mix(mix(chain, count), ciphers), tags);
        }
    }

    /** Kept apart from the keys in use, which go on protecting packets until NEWKEYS. */
    private static final class Exchange {
        final Init ofClient = new Init();
        final Init ofServer = new Init();
        long secret;
        int cipher;
        int tagKind;
        long common;
        long hash;

        boolean choose() {
            cipher = firstShared(ofClient.ciphers, ofServer.ciphers);
            tagKind = firstShared(ofClient.tags, ofServer.tags);
            return cipher != 0 && tagKind != 0;
        }

        long share() {
            return power(GENERATOR, secret);
        }

        void agree(long part, long clientShare, long serverShare, long peerShare) {
            common = power(peerShare, secret);
            long chain = ofServer.mixedInto(ofClient.mixedInto(0));
            hash = mix(mix(mix(mix(chain, part), clientShare), serverShare), common);
        }
    }

    private static final class Channel {
        final int index;
        final int[] inbox = new int[FULL_ROOM];
        int state;
        long peer;
        long window;
        int room;
        int first;
        int held;
        int readSinceWindow;

        Channel(int index) {
            this.index = index;
        }

        void free() {
            state = CHANNEL_FREE;
            peer = 0;
            window = 0;
            room = 0;
            readSinceWindow = 0;
            empty();
        }

        void empty() {
            first = 0;
            held = 0;
        }

        void connect(long toPeer, long withWindow) {
            state = CHANNEL_OPEN;
            peer = toPeer;
            window = withWindow;
        }

        boolean isConnected() {
            return state == CHANNEL_OPEN || state == CHANNEL_CLOSED;
        }

        int takeConfirm(long fromPeer, long withWindow) {
            if (state != CHANNEL_OPENING) {
                return BAD_CHANNEL_USE;
            }
            connect(fromPeer, withWindow);
            return TAKEN;
        }

        int takeRefuse() {
            if (state != CHANNEL_OPENING) {
                return BAD_CHANNEL_USE;
            }
            free();
            return TAKEN;
        }

        int takeWindow(long growth) {
            if (!isConnected() || growth < 1 || growth > MOST_GROWTH) {
                return BAD_CHANNEL_USE;
            }
            window += growth;
            return TAKEN;
        }

        int takeData(long count, long bytes) {
            if (!isConnected() || count < 1 || count > MOST_BYTES || count > room) {
                return BAD_CHANNEL_USE;
            }
            room -= (int) count;
            if (state == CHANNEL_OPEN) {
                keep((int) count, bytes);
            }
            return TAKEN;
        }

        void keep(int count, long bytes) {
            // The room that a sender was told is never more than what the inbox can still hold.
            for (int left = count - 1; left >= 0 && held < FULL_ROOM; left--) {
                inbox[(first + held) % FULL_ROOM] = (int) (bytes >>> 8 * left & 255);
                held++;
            }
        }

        int takeByte() {
            if (held == 0) {
                return -1;
            }
            int taken = inbox[first];
            first = (first + 1) % FULL_ROOM;
            held--;
            readSinceWindow++;
            return taken;
        }

        long summary() {
            return state + 4 * peer + 16L * held + 1024L * room + 65536 * window;
        }
    }

    private abstract static class Endpoint {
        final Line arriving;
        final Line departing;
        final int direction;
        final Packet taken = new Packet();
        final Packet made = new Packet();
        final Keys incoming = new Keys();
        final Keys outgoing = new Keys();
        final Exchange exchange = new Exchange();
        final Channel[] channels = new Channel[CHANNELS];
        int phase = PHASE_NEW;
        long reason;
        int ciphers = 1;
        int tags = 1;
        int nextSecret;
        int initsSent;
        boolean hasSession;
        long session;

        Endpoint(Line arriving, Line departing, int direction, int nextSecret) {
            this.arriving = arriving;
            this.departing = departing;
            this.direction = direction;
            this.nextSecret = nextSecret;
            for (int c = 0; c < CHANNELS; c++) {
                channels[c] = new Channel(c);
            }
        }

        abstract void answerInit();

        abstract int takeShare(Packet packet);

        abstract int takeReply(Packet packet);

        boolean mayStart() {
            return phase == PHASE_NEW || phase == PHASE_READY;
        }

        void start() {
            // The secret is fixed here: one that is set later counts from the next INIT on.
            exchange.secret = nextSecret;
            ownInit().set(initsSent, ciphers, tags);
            initsSent++;
            phase = PHASE_OFFERING;
            send(INIT, ownInit().count, ciphers, tags, 0);
        }

        Init ownInit() {
            return direction == FROM_CLIENT ? exchange.ofClient : exchange.ofServer;
        }

        Init peerInit() {
            return direction == FROM_CLIENT ? exchange.ofServer : exchange.ofClient;
        }

        void send(int kind, long w, long x, long y, long z) {
            made.kind = kind;
            made.w = w;
            made.x = x;
            made.y = y;
            made.z = z;
            made.tag = outgoing.tagOf(made);
            outgoing.cover(made);
            outgoing.number++;
            departing.add(made);
        }

        void fail(long withReason) {
            send(DISCONNECT, withReason, 0, 0, 0);
            die(withReason);
        }

        void die(long ofReason) {
            phase = PHASE_DEAD;
            reason = ofReason;
        }

        int receive() {
            arriving.takeFirst(taken);
            incoming.cover(taken);
            boolean genuine = incoming.passes(taken);
            incoming.number++;
            int outcome = genuine ? take(taken) : BAD_TAG;
            if (outcome != TAKEN) {
                fail(outcome);
            }
            return taken.kind;
        }

        int take(Packet packet) {
            switch (packet.kind) {
                case DISCONNECT:
                    die(packet.w);
                    return TAKEN;
                case IGNORE:
                    return incoming.present ? TAKEN : OUT_OF_PLACE;
                case INIT:
                    return takeInit(packet);
                case SHARE:
                    return takeShare(packet);
                case REPLY:
                    return takeReply(packet);
                case NEWKEYS:
                    return takeNewKeys();
                case OPEN:
                case CONFIRM:
                case REFUSE:
                case WINDOW:
                case DATA:
                case CLOSE:
                    return incoming.present ? takeForChannel(packet) : OUT_OF_PLACE;
                default:
                    return OUT_OF_PLACE;
            }
        }

        int takeInit(Packet packet) {
            if (mayStart()) {
                start();
            }
            if (phase != PHASE_OFFERING) {
                return OUT_OF_PLACE;
            }
            peerInit().set(packet.w, packet.x, packet.y);
            if (!exchange.choose()) {
                return NO_AGREEMENT;
            }
            phase = PHASE_SHARING;
            answerInit();
            return TAKEN;
        }

        void turn() {
            send(NEWKEYS, 0, 0, 0, 0);
            if (!hasSession) {
                hasSession = true;
                session = exchange.hash;
            }
            outgoing.renew(exchange, session, direction);
            phase = PHASE_TURNING;
        }

        int takeNewKeys() {
            if (phase != PHASE_TURNING) {
                return OUT_OF_PLACE;
            }
            incoming.renew(exchange, session, FROM_CLIENT + FROM_SERVER - direction);
            phase = PHASE_READY;
            return TAKEN;
        }

        int takeForChannel(Packet packet) {
            if (packet.kind == OPEN) {
                return takeOpen(packet);
            }
            Channel channel = channelAt(packet.w);
            if (channel == null) {
                return BAD_CHANNEL_USE;
            }
            switch (packet.kind) {
                case CONFIRM:
                    return channel.takeConfirm(packet.x, packet.y);
                case REFUSE:
                    return channel.takeRefuse();
                case WINDOW:
                    return channel.takeWindow(packet.x);
                case DATA:
                    return channel.takeData(packet.x, packet.y);
                default:
                    return takeClose(channel);
            }
        }

        int takeOpen(Packet packet) {
            Channel free = leastFree();
            if (free == null) {
                send(REFUSE, packet.w, 0, 0, 0);
                return TAKEN;
            }
            free.connect(packet.w, packet.x);
            free.room = FULL_ROOM;
            send(CONFIRM, packet.w, free.index, FULL_ROOM, 0);
            return TAKEN;
        }

        int takeClose(Channel channel) {
            if (!channel.isConnected()) {
                return BAD_CHANNEL_USE;
            }
            if (channel.state == CHANNEL_OPEN) {
                send(CLOSE, channel.peer, 0, 0, 0);
            }
            channel.free();
            return TAKEN;
        }

        Channel channelAt(long c) {
            return c >= 0 && c < CHANNELS ? channels[(int) c] : null;
        }

        Channel leastFree() {
            for (int c = 0; c < CHANNELS; c++) {
                if (channels[c].state == CHANNEL_FREE) {
                    return channels[c];
                }
            }
            return null;
        }

        boolean mayUse(Channel channel) {
            return phase == PHASE_READY && channel.state == CHANNEL_OPEN;
        }

        void ask(Channel channel) {
            channel.state = CHANNEL_OPENING;
            channel.room = FULL_ROOM;
            send(OPEN, channel.index, FULL_ROOM, 0, 0);
        }

        int sendBytes(Channel channel, long bytes, int n) {
            if (channel.window < 1) {
                return 0;
            }
            int count = (int) Math.min(n, channel.window);
            // Up against the highest bit, so that what stands above the n bytes falls off, then down again.
            long front = bytes << 8 * (MOST_BYTES - n) >>> 8 * (MOST_BYTES - count);
            channel.window -= count;
            send(DATA, channel.peer, count, front, 0);
            return count;
        }

        void makeRoom(Channel channel) {
            int more = channel.readSinceWindow;
            if (!mayUse(channel) || more < READ_BEFORE_WINDOW) {
                return;
            }
            channel.room += more;
            channel.readSinceWindow = 0;
            send(WINDOW, channel.peer, more, 0, 0);
        }

        int shut(Channel channel) {
            int lost = channel.held;
            channel.empty();
            channel.state = CHANNEL_CLOSED;
            send(CLOSE, channel.peer, 0, 0, 0);
            return lost;
        }
    }

    private static final class Client extends Endpoint {
        int trusted;

        Client(Line arriving, Line departing) {
            super(arriving, departing, FROM_CLIENT, 2);
        }

        @Override
        void answerInit() {
            send(SHARE, exchange.share(), 0, 0, 0);
        }

        @Override
        int takeShare(Packet packet) {
            return OUT_OF_PLACE;
        }

        @Override
        int takeReply(Packet packet) {
            if (phase != PHASE_SHARING) {
                return OUT_OF_PLACE;
            }
            if (!isShare(packet.x)) {
                return NO_AGREEMENT;
            }
            if (trusted != 0 && packet.w != trusted) {
                return NOT_TRUSTED;
            }
            exchange.agree(packet.w, exchange.share(), packet.x, packet.x);
            if (!verifies(packet.w, packet.y, packet.z, exchange.hash)) {
                return BAD_SIGNATURE;
            }
            turn();
            return TAKEN;
        }
    }

    private static final class Server extends Endpoint {
        int hostSecret = 5;

        Server(Line arriving, Line departing) {
            super(arriving, departing, FROM_SERVER, 3);
        }

        @Override
        void answerInit() {
            // The server waits for the client's share.
        }

        @Override
        int takeShare(Packet packet) {
            if (phase != PHASE_SHARING) {
                return OUT_OF_PLACE;
            }
            if (!isShare(packet.w)) {
                return NO_AGREEMENT;
            }
            long part = power(GENERATOR, hostSecret);
            exchange.agree(part, packet.w, exchange.share(), packet.w);
            long once = (exchange.hash & 1073741823) + 1;
            long r = power(GENERATOR, once);
            long s = (once + challenge(r, exchange.hash) * hostSecret) % (MODULUS - 1);
            send(REPLY, part, exchange.share(), r, s);
            turn();
            return TAKEN;
        }

        @Override
        int takeReply(Packet packet) {
            return OUT_OF_PLACE;
        }
    }
}
