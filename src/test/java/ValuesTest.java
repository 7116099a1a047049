import java.util.NoSuchElementException;

/** Promises 22, 23 and 32 to 34: values that are read, kept, written and called back. */
public final class ValuesTest {
    private static final Check CHECK = new Check();
    private static final int[] NO_LOCKS = {-1, 4, Integer.MAX_VALUE, Integer.MIN_VALUE};
    private static final int[] NO_CLIENTS = {-1, 3, 6, Integer.MAX_VALUE, Integer.MIN_VALUE};

    public static void main(String[] args) {
        promise22Read();
        promise23Write();
        promise23WrongValues();
        promise23NotOwner();
        promise23PausedReaders();
        promise32And33Value();
        promise34Kept();
        promise34KeptThatComesBack();
        CHECK.finish("ValuesTest");
    }

    private static void promise22Read() {
        LockQuorum x = threeClients();
        CHECK.is("read(1, 0)", x.read(1, 0, 0), 'g');
        CHECK.is("kept(1, 0)", x.kept(1, 0), 0);
        CHECK.is("read makes no entry", x.entries(), 0);
        x.request(0, 0, 0);
        x.write(0, 0, 0, 44);
        CHECK.is("read again", x.read(1, 0, 0), 'g');
        CHECK.is("kept(1, 0), new", x.kept(1, 0), 44);
        CHECK.is("read of a lock that is not free", x.read(2, 0, 0), 'g');
        x.pass(5);
        x.read(1, 0, 0);
        x.pass(5);
        CHECK.is("kept in place of the older one", x.kept(1, 0), 44);
        CHECK.fails("kept(2, 0) has ended", IllegalStateException.class, () -> x.kept(2, 0));
    }

    private static void promise23Write() {
        LockQuorum x = threeClients();
        x.request(0, 0, 0);
        x.read(0, 0, 0);
        x.read(1, 0, 0);
        x.read(1, 1, 0);
        CHECK.is("write(999)", x.write(0, 0, 0, 999), 'g');
        CHECK.is("the entry", x.kindOf(1), 'v');
        CHECK.is("value(0)", x.value(0), 999);
        CHECK.fails("called back from the writer", IllegalStateException.class, () -> x.kept(0, 0));
        CHECK.fails("called back from the other", IllegalStateException.class, () -> x.kept(1, 0));
        CHECK.is("another lock's value is kept", x.kept(1, 1), 0);
        x.read(1, 0, 0);
        CHECK.is("write of the same value", x.write(0, 0, 0, 999), 'g');
        CHECK.fails("called back too", IllegalStateException.class, () -> x.kept(1, 0));
        CHECK.is("write(0)", x.write(0, 0, 0, 0), 'g');
        CHECK.is("entries", x.entries(), 4);
        CHECK.is("value(0), 0 again", x.value(0), 0);
    }

    private static void promise23WrongValues() {
        LockQuorum x = threeClients();
        x.request(0, 0, 0);
        for (int value : new int[] {-1, 1000, Integer.MAX_VALUE, Integer.MIN_VALUE}) {
            CHECK.fails("a wrong value", IllegalArgumentException.class, () -> x.write(0, 0, 0, value));
            CHECK.fails("no client goes first", NoSuchElementException.class, () -> x.write(3, 0, 0, value));
            CHECK.fails("no lock goes first", IndexOutOfBoundsException.class, () -> x.write(0, 4, 0, value));
            CHECK.fails("no member goes first", IndexOutOfBoundsException.class, () -> x.write(0, 0, 5, value));
            CHECK.fails("before no leader", IllegalArgumentException.class, () -> x.write(0, 0, 1, value));
        }
        x.setPaused(0, true);
        CHECK.fails("before a paused client", IllegalArgumentException.class, () -> x.write(0, 0, 0, 1000));
        CHECK.is("value(0)", x.value(0), 0);
    }

    private static void promise23NotOwner() {
        LockQuorum x = threeClients();
        CHECK.is("write of a free lock", x.write(0, 0, 0, 1), 'o');
        x.request(0, 0, 0);
        CHECK.is("write by another", x.write(1, 0, 0, 1), 'o');
        x.pass(7);
        CHECK.is("write with a claim", x.write(0, 0, 0, 2), 'g');
        x.pass(1);
        CHECK.is("write by an owner without a claim", x.write(0, 0, 0, 3), 'o');
        x.read(1, 0, 0);
        x.setPaused(1, true);
        CHECK.is("'o' goes before 'b'", x.write(0, 0, 0, 3), 'o');
        CHECK.is("value(0)", x.value(0), 2);
        x.steal(2, 0, 0);
        x.setOffset(0, -2);
        x.setPaused(1, false);
        CHECK.is("a thief does not hinder a write", x.write(0, 0, 0, 3), 'g');
        x.release(0, 0, 0);
        CHECK.is("write after the release", x.write(0, 0, 0, 4), 'o');
    }

    private static void promise23PausedReaders() {
        LockQuorum x = threeClients();
        x.request(0, 0, 0);
        x.read(1, 0, 0);
        x.setPaused(1, true);
        CHECK.is("write with a paused reader", x.write(0, 0, 0, 5), 'b');
        CHECK.is("write of another lock", x.request(0, 1, 0) == 'g' ? x.write(0, 1, 0, 6) : '?', 'g');
        x.pass(7);
        x.renew(0, 0, 0);
        x.pass(2);
        CHECK.is("write after 9", x.write(0, 0, 0, 5), 'b');
        CHECK.is("value(0), not written", x.value(0), 0);
        x.pass(1);
        CHECK.is("write after 10", x.write(0, 0, 0, 5), 'g');
        x.setPaused(1, false);
        CHECK.fails("nothing kept", IllegalStateException.class, () -> x.kept(1, 0));

        for (int reader = 0; reader < 3; reader++) {
            LockQuorum z = threeClients();
            int writer = (reader + 1) % 3;
            z.request(writer, 0, 0);
            z.read(reader, 0, 0);
            z.setPaused(reader, true);
            CHECK.is("write with each reader paused", z.write(writer, 0, 0, 5), 'b');
        }

        LockQuorum y = threeClients();
        y.request(0, 0, 0);
        y.read(1, 0, 0);
        CHECK.is("write with a reader that is awake", y.write(0, 0, 0, 5), 'g');
        y.setPaused(1, true);
        CHECK.is("nothing is noted any more", y.write(0, 0, 0, 6), 'g');
        y.setPaused(1, false);
        y.setOffset(1, 2);
        y.read(1, 0, 0);
        y.setOffset(1, -2);
        y.setPaused(1, true);
        y.pass(5);
        y.renew(0, 0, 0);
        y.pass(4);
        CHECK.is("write while a slow clock may keep it", y.write(0, 0, 0, 7), 'b');
        y.setPaused(1, false);
        CHECK.is("it still keeps the present value", y.kept(1, 0), 6);
        CHECK.is("write once it is awake", y.write(0, 0, 0, 7), 'g');
    }

    private static void promise32And33Value() {
        LockQuorum x = threeClients();
        x.request(0, 3, 0);
        x.request(1, 2, 0);
        CHECK.is("valueByLog(3) before", x.valueByLog(3), 0);
        x.write(0, 3, 0, 17);
        x.write(1, 2, 0, 18);
        x.write(0, 3, 0, 19);
        x.renew(0, 3, 0);
        CHECK.is("value(3)", x.value(3), 19);
        CHECK.is("valueByLog(3)", x.valueByLog(3), 19);
        CHECK.is("value(2)", x.value(2), 18);
        CHECK.is("valueByLog(2)", x.valueByLog(2), 18);
        x.release(0, 3, 0);
        x.pass(60);
        CHECK.is("value(3), free", x.value(3), 19);
        CHECK.is("valueByLog(3), free", x.valueByLog(3), 19);
        CHECK.is("value(0)", x.value(0), 0);
        for (int none : NO_LOCKS) {
            CHECK.fails("value(none)", IndexOutOfBoundsException.class, () -> x.value(none));
            CHECK.fails("valueByLog(none)", IndexOutOfBoundsException.class, () -> x.valueByLog(none));
        }
    }

    private static void promise34Kept() {
        LockQuorum x = threeClients();
        CHECK.fails("kept(0, 0), never read", IllegalStateException.class, () -> x.kept(0, 0));
        x.read(0, 0, 0);
        x.pass(5);
        CHECK.is("kept(0, 0) after 5", x.kept(0, 0), 0);
        x.pass(1);
        CHECK.fails("kept(0, 0) after 6", IllegalStateException.class, () -> x.kept(0, 0));
        x.read(0, 0, 0);
        CHECK.is("kept(0, 0), read again", x.kept(0, 0), 0);
        x.setPaused(0, true);
        CHECK.fails("kept(0, 0), paused", IllegalStateException.class, () -> x.kept(0, 0));
        CHECK.fails("kept(0, 1), not read", IllegalStateException.class, () -> x.kept(0, 1));
        for (int none : NO_CLIENTS) {
            CHECK.fails("kept(none, 9)", NoSuchElementException.class, () -> x.kept(none, 9));
        }
        for (int none : NO_LOCKS) {
            CHECK.fails("kept(0, none)", IndexOutOfBoundsException.class, () -> x.kept(0, none));
        }
    }

    private static void promise34KeptThatComesBack() {
        LockQuorum x = threeClients();
        x.setOffset(0, 1);
        x.read(0, 0, 0);
        x.pass(6);
        CHECK.fails("kept(0, 0) after 6", IllegalStateException.class, () -> x.kept(0, 0));
        x.setOffset(0, -2);
        CHECK.is("kept(0, 0), the clock set back", x.kept(0, 0), 0);
        x.setPaused(0, true);
        x.pass(2);
        x.setPaused(0, false);
        CHECK.is("kept(0, 0), awake after 8", x.kept(0, 0), 0);
        x.pass(1);
        CHECK.fails("kept(0, 0) after 9", IllegalStateException.class, () -> x.kept(0, 0));
    }

    private static LockQuorum threeClients() {
        LockQuorum x = new LockQuorum();
        x.stand(0);
        x.addClient();
        x.addClient();
        x.addClient();
        return x;
    }
}
