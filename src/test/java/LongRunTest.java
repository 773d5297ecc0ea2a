/** "An object is used for at most 512 calls": the last of them is as good as the first. */
public final class LongRunTest {
    private static final int CALLS = 512;
    private int calls = 0;
    private final SecurePair pair = new SecurePair();

    public static void main(String[] args) {
        new LongRunTest().exchangesAgainAndAgain();
        new LongRunTest().bytesAgainAndAgain();
        new LongRunTest().channelsAgainAndAgain();
        Check.end();
    }

    private void deliver(int e, int due) {
        Check.same("call " + ++calls + ": deliver(" + e + ")", pair.deliver(e), due);
    }

    private void exchange(int begun) {
        Check.same("call " + ++calls + ": begin", pair.begin(begun % 2), begun);
        int first = 1 - begun % 2;
        deliver(first, 20);
        deliver(1 - first, 20);
        deliver(1, 30);
        deliver(0, 31);
        deliver(0, 21);
        deliver(1, 21);
    }

    private void exchangesAgainAndAgain() {
        int begun = 1;
        for (; calls + 7 <= CALLS; begun++) {
            exchange(begun);
        }
        Check.yes("seventy exchanges and more", begun > 70);
        Check.same("both ready", pair.phase(0) * 10 + pair.phase(1), 44);
        Check.same("the session is the first one", pair.session(0), new Agreed().session());
        Check.same("numbers begin anew", pair.state(0, 0) + pair.state(0, 1) + pair.state(1, 0) + pair.state(1, 1), 0);
    }

    private void bytesAgainAndAgain() {
        exchange(1);
        pair.open(0);
        deliver(1, 90);
        deliver(0, 91);
        calls++;
        int written = 0;
        int read = 0;
        for (; calls + 13 <= CALLS; calls += 3) {
            Check.same("write", pair.write(0, 0, written % 256 * 256L + (written + 1) % 256, 2), 2);
            written += 2;
            deliver(1, 94);
            for (int i = 0; i < 2; i++) {
                Check.same("read", pair.read(1, 0), read % 256);
                read++;
            }
            if (read % 12 == 0) {
                deliver(0, 93);
            }
        }
        Check.yes("two hundred bytes", read >= 200);
        Check.same("the sender's number", pair.state(0, 0), 1 + written / 2);
        Check.same("the reader's number", pair.state(1, 0), 1 + read / 12);
    }

    private void channelsAgainAndAgain() {
        exchange(1);
        for (; calls + 6 <= CALLS; calls += 2) {
            Check.same("open", pair.open(0), 0);
            deliver(1, 90);
            deliver(0, 91);
            Check.same("close", pair.close(1, 0), 0);
            deliver(0, 97);
            deliver(1, 97);
            Check.same("free", pair.channel(0, 0) + pair.channel(1, 0), 0);
        }
        Check.same("both ready", pair.phase(0) * 10 + pair.phase(1), 44);
    }
}
