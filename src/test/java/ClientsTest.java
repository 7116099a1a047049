import java.util.NoSuchElementException;

/** Promises 13 to 16: clients and their clocks; and who may ask at all (of promises 17 to 23). */
public final class ClientsTest {
    private static final Check CHECK = new Check();
    private static final int[] NONE_OF_TWO = {-1, 2, 6, Integer.MAX_VALUE, Integer.MIN_VALUE};
    private static final int[] NO_LOCKS = {-1, 4, Integer.MAX_VALUE, Integer.MIN_VALUE};
    private static final int[] NO_MEMBERS = {-1, 5, Integer.MAX_VALUE, Integer.MIN_VALUE};

    public static void main(String[] args) {
        promise13AddClient();
        promise14SetOffset();
        promise15SetPaused();
        promise16ClockOf();
        wrongQuestions();
        fullLog();
        CHECK.finish("ClientsTest");
    }

    private static void promise13AddClient() {
        LockQuorum x = new LockQuorum();
        for (int client = 0; client < 6; client++) {
            CHECK.is("addClient()", x.addClient(), client);
            CHECK.is("a new client is awake", x.setPaused(client, false), false);
            CHECK.is("a new client's offset", x.setOffset(client, 0), 0);
        }
        CHECK.fails("a seventh client", IllegalStateException.class, x::addClient);
        CHECK.fails("client 6", NoSuchElementException.class, () -> x.clockOf(6));
    }

    private static void promise14SetOffset() {
        LockQuorum x = twoClients();
        CHECK.is("setOffset(1, 2)", x.setOffset(1, 2), 0);
        CHECK.is("setOffset(1, -2)", x.setOffset(1, -2), 2);
        CHECK.is("setOffset(1, 1)", x.setOffset(1, 1), -2);
        for (int offset : new int[] {3, -3, Integer.MAX_VALUE, Integer.MIN_VALUE}) {
            CHECK.fails("a wrong offset", IllegalArgumentException.class, () -> x.setOffset(1, offset));
            CHECK.fails("no client goes first", NoSuchElementException.class, () -> x.setOffset(2, offset));
        }
        CHECK.is("the offset after wrong ones", x.setOffset(1, 0), 1);
        CHECK.is("the other client's offset", x.setOffset(0, 0), 0);
        for (int none : NONE_OF_TWO) {
            CHECK.fails("setOffset(none)", NoSuchElementException.class, () -> x.setOffset(none, 0));
        }
    }

    private static void promise15SetPaused() {
        LockQuorum x = twoClients();
        CHECK.is("setPaused(0, true)", x.setPaused(0, true), false);
        CHECK.is("setPaused(0, true) again", x.setPaused(0, true), true);
        CHECK.is("setPaused(1, false)", x.setPaused(1, false), false);
        CHECK.is("setPaused(0, false)", x.setPaused(0, false), true);
        CHECK.is("setPaused(0, false) again", x.setPaused(0, false), false);
        for (int none : NONE_OF_TWO) {
            CHECK.fails("setPaused(none)", NoSuchElementException.class, () -> x.setPaused(none, true));
        }
    }

    private static void promise16ClockOf() {
        LockQuorum x = twoClients();
        x.setOffset(0, -2);
        CHECK.is("clockOf(0) before 0", x.clockOf(0), -2);
        x.pass(9);
        CHECK.is("clockOf(0)", x.clockOf(0), 7);
        CHECK.is("clockOf(1)", x.clockOf(1), 9);
        x.setPaused(0, true);
        x.setOffset(0, 2);
        x.pass(1);
        CHECK.is("clockOf(0), paused", x.clockOf(0), 12);
        for (int none : NONE_OF_TWO) {
            CHECK.fails("clockOf(none)", NoSuchElementException.class, () -> x.clockOf(none));
        }
    }

    private static void wrongQuestions() {
        for (int what = 0; what < 6; what++) {
            int asked = what;
            LockQuorum x = twoClients();
            CHECK.fails("no leader yet", IllegalStateException.class, () -> ask(x, asked, 0, 0, 0));
            x.stand(0);
            for (int none : NONE_OF_TWO) {
                CHECK.fails("no client", NoSuchElementException.class, () -> ask(x, asked, none, 9, 9));
                CHECK.fails("no client", NoSuchElementException.class, () -> ask(x, asked, none, 0, 0));
            }
            for (int none : NO_LOCKS) {
                CHECK.fails("no lock", IndexOutOfBoundsException.class, () -> ask(x, asked, 0, none, 0));
            }
            x.setPaused(1, true);
            for (int none : NO_MEMBERS) {
                CHECK.fails("no member", IndexOutOfBoundsException.class, () -> ask(x, asked, 1, 0, none));
            }
            CHECK.fails("a paused client", IllegalStateException.class, () -> ask(x, asked, 1, 0, 0));
            CHECK.fails("no leader", IllegalStateException.class, () -> ask(x, asked, 0, 0, 1));
            x.setDown(0, true);
            CHECK.fails("a leader that is down", IllegalStateException.class, () -> ask(x, asked, 0, 0, 0));
            CHECK.is("nothing is changed", x.entries() + x.waiting(0) + x.termOf(0), 1);
        }
    }

    private static void fullLog() {
        LockQuorum x = twoClients();
        x.stand(0);
        x.request(0, 0, 0);
        for (int i = 1; i < 250; i++) {
            CHECK.is("entry " + i, x.renew(0, 0, 0), 'g');
        }
        CHECK.is("entries", x.entries(), 250);
        for (int what = 0; what < 6; what++) {
            int asked = what;
            CHECK.fails("a full log", IllegalStateException.class, () -> ask(x, asked, 1, 0, 0));
            CHECK.fails("no client goes first", NoSuchElementException.class, () -> ask(x, asked, 2, 0, 0));
        }
        CHECK.is("nobody waits", x.waiting(0), 0);
        CHECK.is("the last entry", x.kindOf(249), 'r');
        CHECK.fails("no entry 250", NoSuchElementException.class, () -> x.kindOf(250));
        CHECK.is("known by all", x.knownBy(249), 5);
        CHECK.is("isOneOrder of a full log", x.isOneOrder(), true);
    }

    private static LockQuorum twoClients() {
        LockQuorum x = new LockQuorum();
        x.addClient();
        x.addClient();
        return x;
    }

    private static char ask(LockQuorum x, int what, int client, int lock, int member) {
        switch (what) {
            case 0: return x.request(client, lock, member);
            case 1: return x.steal(client, lock, member);
            case 2: return x.renew(client, lock, member);
            case 3: return x.release(client, lock, member);
            case 4: return x.read(client, lock, member);
            default: return x.write(client, lock, member, 1);
        }
    }
}
