/** What is done in which phase: every phase, at both endpoints, in the first exchange and in one behind it. */
public final class PhaseTest {
    private static final int NEW = 0;
    private static final int OFFERING = 1;
    private static final int SHARING = 2;
    private static final int TURNING = 3;
    private static final int READY = 4;
    private static final int DEAD = 5;
    private static final int[] NONE_OF_THESE = {0, -1, 3, 19, 22, 29, 32, 89, 95, 96, 98, 256 + 2, Integer.MIN_VALUE, Integer.MAX_VALUE};
    private static final int[] FOR_CHANNELS = {90, 91, 92, 93, 94, 97};
    private static final Agreed AGREED = new Agreed();

    public static void main(String[] args) {
        for (int e = 0; e < 2; e++) {
            for (int phase = NEW; phase <= DEAD; phase++) {
                inFirstExchange(e, phase);
                if (phase != NEW) {
                    inSecondExchange(e, phase);
                }
            }
        }
        ignoreBehindTheFirstNewKeysAlone();
        Check.end();
    }

    private static void inFirstExchange(int e, int phase) {
        Check.same("the phase that was wanted", Pairs.inPhase(e, phase, false).phase(e) & 7, phase);
        calls(e, phase, false);
        if (phase < READY) {
            disconnectIsTakenAlways(e, phase);
            failsWithTwo("IGNORE before the first NEWKEYS", e, phase, 2);
            for (int kind : NONE_OF_THESE) {
                failsWithTwo("a kind that is none of these", e, phase, kind);
            }
            for (int kind : FOR_CHANNELS) {
                failsWithTwo("for channels, before the first NEWKEYS", e, phase, kind);
            }
            init(e, phase);
            share(e, phase);
            reply(e, phase);
            newKeys(e, phase);
        }
        if (phase == DEAD) {
            dead(Pairs.inPhase(e, DEAD, false), e);
        }
    }

    private static void inSecondExchange(int e, int phase) {
        Check.same("the phase that was wanted", Pairs.inPhase(e, phase, true).phase(e) & 7, phase);
        calls(e, phase, true);
        if (phase == DEAD) {
            dead(Pairs.inPhase(e, DEAD, true), e);
            return;
        }
        forged("DISCONNECT", e, phase, 1, 44, 5 + 8 * 44);
        forged("IGNORE", e, phase, 2, 0, phase);
        for (int kind : NONE_OF_THESE) {
            forged("a kind that is none of these", e, phase, kind, 0, 5 + 8 * 2);
        }
        forged("OPEN", e, phase, 90, 2, phase);
        forged("CLOSE", e, phase, 97, 0, phase);
        forged("CLOSE of none", e, phase, 97, 1, 5 + 8 * 7);
        if (phase == SHARING || phase == TURNING) {
            forged("INIT", e, phase, 20, 1, 5 + 8 * 2);
        }
        forged("SHARE", e, phase, 30, 49, e == 1 && phase == SHARING ? TURNING : 5 + 8 * 2);
        forged("NEWKEYS", e, phase, 21, 0, phase == TURNING ? READY : 5 + 8 * 2);
        if (phase != SHARING || e == 1) {
            forged("REPLY", e, phase, 31, 16807, 5 + 8 * 2);
        }
    }

    private static void forged(String what, int e, int phase, int kind, long w, long due) {
        SecurePair pair = Pairs.inPhase(e, phase, true);
        // What was taken off the line had numbers, too; the keys of the first exchange hold until NEWKEYS.
        AGREED.forge(pair, e, kind, w);
        Check.same("deliver", pair.deliver(e), kind);
        Check.same(what + " (" + kind + ") to " + e + " in phase " + phase, pair.phase(e), due);
    }

    private static void due(String what, Class<? extends RuntimeException> thrown, SecurePair pair, Runnable call) {
        if (thrown == null) {
            call.run();
        } else {
            Check.refused(what, thrown, pair, call);
        }
    }

    /** Promises 6, 8, 9, 11 and 12: begin, open, write, close and leave. */
    private static void calls(int e, int phase, boolean again) {
        Class<IllegalStateException> refused = IllegalStateException.class;
        String where = " by " + e + " in phase " + phase + (again ? " again" : "");
        SecurePair pair = Pairs.inPhase(e, phase, again);
        boolean open = again && phase == READY;
        due("write" + where, open ? null : refused, pair, () -> pair.write(e, 0, 1, 1));
        due("open" + where, phase == READY ? null : refused, pair, () -> pair.open(e));
        due("close" + where, open ? null : refused, pair, () -> pair.close(e, 0));
        due("begin" + where, phase == NEW || phase == READY ? null : refused, pair, () -> pair.begin(e));
        String before = Pairs.view(pair);
        Check.same("leave" + where, pair.leave(e, 9) ? 1 : 0, phase == DEAD ? 0 : 1);
        if (phase == DEAD) {
            Check.unchanged("leave" + where, pair, before);
        }
        Check.same("dead then", pair.phase(e), 5 + 8 * (phase == DEAD ? 6 : 9));
    }

    private static void insert(SecurePair pair, int e, int kind, long w, int... rest) {
        pair.insert(e, kind, w, 0);
        for (int i = 0; i < rest.length; i++) {
            pair.alter(e, 2 + i, rest[i]);
        }
        Check.same("deliver", pair.deliver(e), kind);
    }

    private static void failsWithTwo(String what, int e, int phase, int kind) {
        SecurePair pair = Pairs.inPhase(e, phase, false);
        // Whoever is turning sends with keys already, though nothing that comes has any.
        boolean keyed = phase == TURNING;
        int number = pair.state(e, 0);
        insert(pair, e, kind, 0, 1, 1, 1);
        Check.same(what + " (" + kind + ") to " + e + " in phase " + phase, pair.phase(e), 5 + 8 * 2);
        int last = pair.line(1 - e) - 1;
        if (keyed) {
            AGREED.checkPacket("DISCONNECT", pair, 1 - e, last, number, 1, 2, 0, 0, 0);
        } else {
            Check.same("DISCONNECT", pair.packet(1 - e, last, 0), 1);
            Check.same("its reason", pair.packet(1 - e, last, 1), 2);
        }
    }

    private static void disconnectIsTakenAlways(int e, int phase) {
        SecurePair pair = Pairs.inPhase(e, phase, false);
        int sent = pair.line(1 - e);
        insert(pair, e, 1, -3);
        Check.same("DISCONNECT to " + e + " in phase " + phase, pair.phase(e), 5 - 8 * 3);
        Check.same("nothing is sent", pair.line(1 - e), sent);
    }

    private static void init(int e, int phase) {
        if (phase == SHARING || phase == TURNING) {
            failsWithTwo("INIT", e, phase, 20);
            return;
        }
        SecurePair pair = Pairs.inPhase(e, phase, false);
        insert(pair, e, 20, 0, 1, 1);
        Check.same("INIT to " + e + " in phase " + phase, pair.phase(e), SHARING);
        Check.same("its own INIT, and SHARE of the client", pair.line(1 - e), e == 0 ? 2 : 1);
        Check.same("INIT first", pair.packet(1 - e, 0, 0), 20);
    }

    private static void share(int e, int phase) {
        if (e == 0 || phase != SHARING) {
            failsWithTwo("SHARE", e, phase, 30);
            return;
        }
        SecurePair pair = Pairs.inPhase(e, phase, false);
        insert(pair, e, 30, 49);
        Check.same("SHARE", pair.phase(e), TURNING);
    }

    private static void reply(int e, int phase) {
        if (e == 1 || phase != SHARING) {
            failsWithTwo("REPLY", e, phase, 31);
            return;
        }
        SecurePair pair = Pairs.inPhase(e, phase, false);
        insert(pair, e, 31, 1, 343, 7, 1);
        Check.same("REPLY", pair.phase(e), TURNING);
    }

    private static void newKeys(int e, int phase) {
        if (phase != TURNING) {
            failsWithTwo("NEWKEYS", e, phase, 21);
            return;
        }
        SecurePair pair = Pairs.inPhase(e, phase, false);
        insert(pair, e, 21, 0);
        Check.same("NEWKEYS", pair.phase(e), READY);
    }

    /** Promise 7: "-1 when e is DEAD (the packet goes)", whatever it is; and 0 when there is none, dead or not. */
    private static void dead(SecurePair pair, int e) {
        int number = pair.state(e, 1);
        int sent = pair.line(1 - e);
        Check.same("deliver of nothing to the dead", pair.deliver(e), 0);
        for (int kind : new int[] {1, 2, 20, 21, 30, 31, 90, 94, 97, 98}) {
            pair.insert(e, 2, 5, 5);
            pair.insert(e, kind, 5, 5);
            Check.same("deliver to the dead", pair.deliver(e), -1);
            Check.same("the packet goes", pair.line(e), 1);
            Check.same("deliver to the dead", pair.deliver(e), -1);
            Check.same("the packet goes", pair.line(e), 0);
        }
        Check.same("its reason stays", pair.phase(e), 5 + 8 * 6);
        Check.same("nothing is sent", pair.line(1 - e), sent);
        Check.same("nothing was received", pair.state(e, 1), number);
        Check.same("deliver of nothing to the dead", pair.deliver(e), 0);
    }

    /** "IGNORE is taken in any phase, but before the first NEWKEYS was taken it makes it fail with 2". */
    private static void ignoreBehindTheFirstNewKeysAlone() {
        for (int e = 0; e < 2; e++) {
            SecurePair before = Pairs.inPhase(e, TURNING, false);
            insert(before, e, 2, 0);
            Check.same("IGNORE when it has sent NEWKEYS and taken none", before.phase(e), 5 + 8 * 2);
            SecurePair behind = Pairs.inPhase(e, TURNING, false);
            insert(behind, e, 21, 0);
            AGREED.forge(behind, e, 2, 0);
            Check.same("deliver", behind.deliver(e), 2);
            Check.same("IGNORE when it has taken it", behind.phase(e), READY);
        }
    }
}
