/** Pairs in the states that tests begin from, and what can be seen of a pair. */
final class Pairs {
    private Pairs() {
    }

    /** Delivers to both in turn until both lines are empty. */
    static void settle(SecurePair pair) {
        for (int i = 0; i < 100 && pair.line(0) + pair.line(1) > 0; i++) {
            pair.deliver(0);
            pair.deliver(1);
        }
    }

    static SecurePair ready() {
        SecurePair pair = new SecurePair();
        pair.begin(0);
        settle(pair);
        return pair;
    }

    /** Ready, with channel 0 of the client open to channel 0 of the server. */
    static SecurePair connected() {
        SecurePair pair = ready();
        pair.open(0);
        settle(pair);
        return pair;
    }

    /** Both have both INITs, and the client's SHARE is on its way. */
    static SecurePair sharing() {
        SecurePair pair = new SecurePair();
        pair.begin(0);
        pair.deliver(1);
        pair.deliver(0);
        return pair;
    }

    /** As sharing, with the lines emptied: what comes next is the test's. */
    static SecurePair sharingWithEmptyLines() {
        SecurePair pair = sharing();
        pair.lose(1);
        return pair;
    }

    /**
     * A pair of which e is in this phase: of its first exchange, or, again, of the second one with channel 0 open
     * between both. The line to e is empty, so that what comes next is the test's.
     */
    static SecurePair inPhase(int e, int phase, boolean again) {
        SecurePair pair = again ? connected() : new SecurePair();
        if (phase >= 1 && phase <= 3) {
            pair.begin(phase == 1 ? e : 0);
        }
        int steps = phase == 2 || phase == 3 ? 2 * phase - 2 - e : 0;
        for (int i = 0; i < steps; i++) {
            pair.deliver((i + 1) % 2);
        }
        if (phase == 4 && !again) {
            pair.begin(0);
            settle(pair);
        }
        if (phase == 5) {
            pair.leave(e, 6);
        }
        while (pair.lose(e)) {
            continue;
        }
        return pair;
    }

    static void fillLine(SecurePair pair, int e) {
        for (int i = pair.line(e); i < 16; i++) {
            pair.insert(e, 2, 0, 0);
        }
    }

    static String view(SecurePair pair) {
        StringBuilder text = new StringBuilder();
        for (int e = 0; e < 2; e++) {
            text.append("endpoint ").append(e).append(": ").append(pair.phase(e)).append(' ').append(pair.session(e));
            for (int what = 0; what < 4; what++) {
                text.append(' ').append(pair.state(e, what));
            }
            for (int c = 0; c < 3; c++) {
                text.append(' ').append(pair.channel(e, c));
            }
            text.append(" line");
            for (int k = 0; k < pair.line(e); k++) {
                for (int what = 0; what < 6; what++) {
                    text.append(' ').append(pair.packet(e, k, what));
                }
                text.append(';');
            }
        }
        return text.toString();
    }
}
