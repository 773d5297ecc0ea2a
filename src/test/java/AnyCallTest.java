import java.util.Random;

/** Runs of any calls with any arguments: nothing but what the document names is thrown, and limits hold. */
public final class AnyCallTest {
    private static final int[] ODD = {Integer.MIN_VALUE, -1, 2, 3, 5, 16, 97, Integer.MAX_VALUE};
    private static final int[] KINDS = {1, 2, 20, 21, 30, 31, 90, 91, 92, 93, 94, 95, 97, 0, -1};

    public static void main(String[] args) {
        int ready = 0;
        for (int seed = 0; seed < 4000; seed++) {
            ready += run(seed) ? 1 : 0;
        }
        Check.yes("many runs get as far as new keys", ready > 1000);
        for (int seed = 0; seed < 50; seed++) {
            sameCallsSameAnswers(seed);
        }
        Check.end();
    }

    private static boolean run(int seed) {
        SecurePair pair = new SecurePair();
        Random random = new Random(seed);
        boolean keyed = false;
        for (int i = 0; i < 512; i++) {
            String thrown = callNamed(pair, random, seed % 4 == 0);
            if (thrown != null) {
                Check.yes("seed " + seed + ", call " + i + ": " + thrown, false);
                return keyed;
            }
            if (!withinLimits(pair)) {
                Check.yes("seed " + seed + ", call " + i + ": limits", false);
                return keyed;
            }
            keyed |= pair.phase(0) == 4 && pair.phase(1) == 4;
        }
        return keyed;
    }

    private static void sameCallsSameAnswers(int seed) {
        SecurePair pair = new SecurePair();
        SecurePair other = new SecurePair();
        Random random = new Random(seed);
        Random same = new Random(seed);
        for (int i = 0; i < 512; i++) {
            callNamed(pair, random, false);
            callNamed(other, same, false);
        }
        Check.unchanged("the same calls on another object, seed " + seed, pair, Pairs.view(other));
    }

    private static boolean withinLimits(SecurePair pair) {
        for (int e = 0; e < 2; e++) {
            if (pair.line(e) < 0 || pair.line(e) > 16) {
                return false;
            }
            long phase = pair.phase(e) & 7;
            if (phase > 5 || phase < 5 && pair.phase(e) != phase) {
                return false;
            }
            for (int c = 0; c < 3; c++) {
                long channel = pair.channel(e, c);
                long room = channel >> 10 & 63;
                long inbox = channel >> 4 & 63;
                if (room + inbox > 24 || (channel & 3) == 0 && channel != 0 || (channel & 3) == 1 && channel != 1 + 24 * 1024) {
                    return false;
                }
            }
        }
        return true;
    }

    private static int endpoint(Random random) {
        return random.nextInt(60) == 0 ? ODD[random.nextInt(ODD.length)] : random.nextInt(2);
    }

    private static int channel(Random random) {
        return random.nextInt(60) == 0 ? ODD[random.nextInt(ODD.length)] : random.nextInt(3);
    }

    /** Makes one call; answers what it threw when that is not named by the document for it. */
    private static String callNamed(SecurePair pair, Random random, boolean touched) {
        int choice = random.nextInt(100);
        int e = endpoint(random);
        int c = channel(random);
        try {
            if (choice < 45) {
                return tryDeliver(pair, e);
            }
            if (choice < 80) {
                useChannels(pair, random, e, c, choice);
                return null;
            }
            if (choice < 86) {
                pair.begin(e);
                return null;
            }
        } catch (IndexOutOfBoundsException thrown) {
            boolean named = e < 0 || e > 1 || choice < 80 && (c < 0 || c > 2);
            return named ? null : thrown.toString();
        } catch (IllegalStateException | UnsupportedOperationException thrown) {
            return null;
        } catch (IllegalArgumentException thrown) {
            return choice < 65 ? null : thrown.toString();
        } catch (RuntimeException thrown) {
            return thrown.toString();
        }
        return touchOrSet(pair, random, e, c, touched);
    }

    private static String tryDeliver(SecurePair pair, int e) {
        try {
            pair.deliver(e);
        } catch (IndexOutOfBoundsException thrown) {
            return e < 0 || e > 1 ? null : thrown.toString();
        }
        return null;
    }

    private static void useChannels(SecurePair pair, Random random, int e, int c, int choice) {
        if (choice < 55) {
            pair.write(e, c, random.nextLong(), random.nextInt(10));
        } else if (choice < 70) {
            pair.read(e, c);
        } else if (choice < 77) {
            pair.open(e);
        } else {
            pair.close(e, c);
        }
    }

    private static String touchOrSet(SecurePair pair, Random random, int e, int c, boolean touched) {
        try {
            switch (random.nextInt(touched ? 12 : 4)) {
                case 0:
                    pair.offer(e, random.nextInt(30), 1 + random.nextInt(30));
                    break;
                case 1:
                    pair.secret(e, random.nextInt());
                    break;
                case 2:
                    pair.host(random.nextInt());
                    break;
                case 3:
                    pair.trust(0);
                    break;
                case 4:
                    pair.lose(e);
                    break;
                case 5:
                    pair.twice(e);
                    break;
                case 6:
                    pair.swap(e);
                    break;
                case 7:
                    pair.insert(e, KINDS[random.nextInt(KINDS.length)], random.nextInt(4), random.nextLong());
                    break;
                case 8:
                    pair.alter(e, random.nextInt(8) - 1, random.nextInt());
                    break;
                case 9:
                    if (random.nextInt(20) == 0) {
                        pair.leave(e, random.nextInt());
                    }
                    break;
                case 10:
                    pair.trust(random.nextInt());
                    break;
                default:
                    pair.state(e, c);
                    pair.packet(e, random.nextInt(20) - 2, random.nextInt(9) - 1);
                    pair.session(e);
            }
        } catch (RuntimeException thrown) {
            return thrown.toString();
        }
        return null;
    }
}
