import java.util.Random;
import java.util.function.LongSupplier;

/** Runs of 512 calls on the program and on the model: every answer, and all that can be seen, is the same. */
public final class ModelTest {
    private static final int CALLS = 512;
    private static final int[] ODD = {Integer.MIN_VALUE, -1, 2, 3, 5, 16, 97, Integer.MAX_VALUE};
    private static final int[] KINDS = {1, 2, 20, 21, 30, 31, 90, 91, 92, 93, 94, 95, 96, 97, 0, -1};
    private static final int[] LISTS = {1, 2, 3, 4, 10, 17, 19, 26, 83, 209, 282, 1, 1, 1, 0, 9, 5, 512};
    private static final int[] SECRETS = {1, 2, 3, 77, 1073741823, 2147483645, 2147483646, 0, -1, 123456789};
    private static final long[] SHARES = {0, 1, 2, 49, 343, 2147483645L, 2147483646L, 2147483647L, -1, 1L << 40};

    private final SecurePair pair = new SecurePair();
    private final Model model = new Model();
    private final Random random;
    private final int touching;
    private final String name;

    private ModelTest(int seed, int touching) {
        random = new Random(seed);
        this.touching = touching;
        name = "seed " + seed + ", touching " + touching;
    }

    public static void main(String[] args) {
        int[] reached = new int[6];
        int runs = args.length > 0 ? Integer.parseInt(args[0]) : 500;
        for (int seed = 0; seed < runs; seed++) {
            for (int touching = 0; touching < 3; touching++) {
                new ModelTest(seed, touching).run(reached);
            }
        }
        for (int phase = 0; phase < 6; phase++) {
            Check.yes("runs were long in phase " + phase, reached[phase] > runs);
        }
        Check.end();
    }

    private void run(int[] reached) {
        for (int i = 0; i < CALLS; i++) {
            String call = step();
            if (call != null) {
                Check.yes(name + ", call " + i + ": " + call, false);
                return;
            }
            String seen = view();
            if (seen != null) {
                Check.yes(name + ", after call " + i + ": " + seen, false);
                return;
            }
            reached[(int) (pair.phase(random.nextInt(2)) & 7)]++;
        }
        Check.yes(name, true);
    }

    /** What differs between the two, or null. */
    private String view() {
        for (int e = 0; e < 2; e++) {
            if (pair.phase(e) != model.phase(e) || pair.session(e) != model.session(e) || pair.line(e) != model.line(e)) {
                return "phase, session or line of " + e;
            }
            for (int what = 0; what < 4; what++) {
                if (pair.state(e, what) != model.state(e, what)) {
                    return "state(" + e + ", " + what + ")";
                }
            }
            for (int c = 0; c < 3; c++) {
                if (pair.channel(e, c) != model.channel(e, c)) {
                    return "channel(" + e + ", " + c + ")";
                }
            }
            for (int k = 0; k < pair.line(e); k++) {
                for (int what = 0; what < 6; what++) {
                    if (pair.packet(e, k, what) != model.packet(e, k, what)) {
                        return "packet(" + e + ", " + k + ", " + what + ")";
                    }
                }
            }
        }
        return null;
    }

    private static Object answer(LongSupplier call) {
        try {
            return call.getAsLong();
        } catch (RuntimeException thrown) {
            return thrown.getClass().getSimpleName();
        }
    }

    private static String compare(String call, Object due, LongSupplier program) {
        Object got = answer(program);
        return got.equals(due) ? null : call + " answered " + got + ", due is " + due;
    }

    private static long number(boolean answer) {
        return answer ? 1 : 0;
    }

    private int pick(int[] from) {
        return from[random.nextInt(from.length)];
    }

    private int endpoint() {
        return random.nextInt(80) == 0 ? pick(ODD) : random.nextInt(2);
    }

    private int channel() {
        return random.nextInt(60) == 0 ? pick(ODD) : random.nextInt(3);
    }

    private String step() {
        int choice = random.nextInt(100);
        int e = endpoint();
        int c = channel();
        if (choice < 40) {
            return compare("deliver(" + e + ")", model.deliver(e), () -> pair.deliver(e));
        }
        if (choice < 55) {
            long bytes = random.nextLong();
            int n = random.nextInt(40) == 0 ? pick(ODD) : random.nextInt(10);
            return compare("write(" + e + ", " + c + ", " + bytes + ", " + n + ")", model.write(e, c, bytes, n),
                    () -> pair.write(e, c, bytes, n));
        }
        if (choice < 75) {
            return compare("read(" + e + ", " + c + ")", model.read(e, c), () -> pair.read(e, c));
        }
        if (choice < 81) {
            return compare("open(" + e + ")", model.open(e), () -> pair.open(e));
        }
        if (choice < 84) {
            return compare("close(" + e + ", " + c + ")", model.close(e, c), () -> pair.close(e, c));
        }
        if (choice < 89) {
            return compare("begin(" + e + ")", model.begin(e), () -> pair.begin(e));
        }
        if (choice < 94 || touching == 0) {
            return set(e);
        }
        // Touching less lets runs get farther; touching a line while there are no keys can be survived.
        return touching == 2 || random.nextInt(12) == 0 ? touch(e) : null;
    }

    private String set(int e) {
        switch (random.nextInt(touching == 0 ? 3 : 5)) {
            case 0:
                int ciphers = pick(LISTS);
                int tags = pick(LISTS);
                if (touching < 2 && random.nextInt(4) > 0) {
                    ciphers = 1;
                    tags = 17;
                }
                int first = ciphers;
                int second = tags;
                return compare("offer(" + e + ", " + first + ", " + second + ")", model.offer(e, first, second),
                        () -> number(pair.offer(e, first, second)));
            case 1:
                int secret = random.nextBoolean() ? pick(SECRETS) : random.nextInt();
                return compare("secret(" + e + ", " + secret + ")", model.secret(e, secret),
                        () -> number(pair.secret(e, secret)));
            case 2:
                int host = random.nextBoolean() ? pick(SECRETS) : random.nextInt();
                return compare("host(" + host + ")", model.host(host), () -> pair.host(host));
            case 3:
                int part = random.nextInt(3) == 0 ? 16807 : 0;
                model.trust(part);
                pair.trust(part);
                return null;
            default:
                return look(e);
        }
    }

    private String look(int e) {
        int k = random.nextInt(20) - 2;
        int what = random.nextInt(9) - 2;
        int c = channel();
        String first = compare("packet(" + e + ", " + k + ", " + what + ")", model.packet(e, k, what),
                () -> pair.packet(e, k, what));
        String second = compare("state(" + e + ", " + what + ")", model.state(e, what), () -> pair.state(e, what));
        String third = compare("channel(" + e + ", " + c + ")", model.channel(e, c), () -> pair.channel(e, c));
        String fourth = compare("phase(" + e + ")", model.phase(e), () -> pair.phase(e));
        String fifth = compare("session(" + e + ")", model.session(e), () -> pair.session(e));
        String sixth = compare("line(" + e + ")", (long) model.line(e), () -> pair.line(e));
        for (String wrong : new String[] {first, second, third, fourth, fifth, sixth}) {
            if (wrong != null) {
                return wrong;
            }
        }
        return null;
    }

    private String touch(int e) {
        switch (random.nextInt(7)) {
            case 0:
                return compare("lose(" + e + ")", model.lose(e), () -> number(pair.lose(e)));
            case 1:
                return compare("twice(" + e + ")", model.twice(e), () -> number(pair.twice(e)));
            case 2:
                return compare("swap(" + e + ")", model.swap(e), () -> number(pair.swap(e)));
            case 3:
                int kind = random.nextInt(6) == 0 ? random.nextInt() : pick(KINDS);
                long w = random.nextBoolean() ? SHARES[random.nextInt(SHARES.length)] : random.nextInt(5) - 1;
                long tag = random.nextBoolean() ? 0 : random.nextLong();
                return compare("insert(" + e + ", " + kind + ", " + w + ", " + tag + ")", model.insert(e, kind, w, tag),
                        () -> number(pair.insert(e, kind, w, tag)));
            case 4:
            case 5:
                int what = random.nextInt(8) - 1;
                int v = random.nextInt(3) == 0 ? random.nextInt() : 1 << random.nextInt(32);
                return compare("alter(" + e + ", " + what + ", " + v + ")", model.alter(e, what, v),
                        () -> number(pair.alter(e, what, v)));
            default:
                int reason = random.nextInt();
                return random.nextInt(8) == 0
                        ? compare("leave(" + e + ", " + reason + ")", model.leave(e, reason), () -> number(pair.leave(e, reason)))
                        : null;
        }
    }
}
