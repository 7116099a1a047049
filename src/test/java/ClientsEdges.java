import java.util.NoSuchElementException;

/** Promises 13 to 16, sentence by sentence: clients and their clocks. */
final class ClientsEdges {
    private static final Class<NoSuchElementException> NO_ELEMENT = NoSuchElementException.class;

    private final Sentences s;

    ClientsEdges(Sentences s) {
        this.s = s;
    }

    void run() {
        s.runs(this::promise13AddClient);
        s.runs(this::promise14SetOffset);
        s.runs(this::promise15SetPaused);
        s.runs(this::promise16ClockOf);
    }

    private void promise13AddClient() {
        s.promise(13);
        LockQuorum x = Keepers.withClients(0);
        for (int client = 0; client < 6; client++) {
            s.says("Returns the number of the client.");
            s.is("addClient", x.addClient(), client);
            s.says("Adds a client, which is awake.");
            s.is("it can ask", x.read(client, 0, 0), 'g');
            s.is("it was not paused", x.setPaused(client, false), false);
            s.is("its offset", x.setOffset(client, 0), 0);
            s.refusesEach(x, Keepers.noClientsOf(client + 1), NO_ELEMENT, LockQuorum::clockOf);
        }
        s.says("Throws `IllegalStateException`");
        s.refuses(x, "a seventh client", IllegalStateException.class, LockQuorum::addClient);
        s.refuses(x, "a seventh client again", IllegalStateException.class, LockQuorum::addClient);
        s.refuses(x, "it has no number", NO_ELEMENT, y -> y.setPaused(6, false));
    }

    private void promise14SetOffset() {
        s.promise(14);
        s.says("Sets the offset of the clock of a client.");
        LockQuorum x = Keepers.withClients(6);
        x.setOffset(3, 2);
        s.is("the clock", x.clockOf(3), 2);
        s.is("another's clock", x.clockOf(2) + x.clockOf(4), 0);
        s.is("the time", x.time(), 0);
        x.setPaused(3, true);
        x.setOffset(3, -1);
        s.is("the clock of a paused client", x.clockOf(3), -1);
        s.says("- `client`");
        x.setOffset(0, 1);
        x.setOffset(5, -2);
        s.is("the first and the last", x.clockOf(0) * 10 + x.clockOf(5), 8);
        s.says("- `offset`");
        for (int offset = -2; offset <= 2; offset++) {
            x.setOffset(1, offset);
            s.is("each offset", x.clockOf(1), offset);
        }
        s.says("Returns the offset before.");
        s.is("2 before", x.setOffset(1, 2), 2);
        s.is("2 before that it was set again", x.setOffset(1, -2), 2);
        s.is("-2 before", x.setOffset(1, 0), -2);
        s.is("0 before", x.setOffset(1, 1), 0);
        s.says("Throws `NoSuchElementException`");
        LockQuorum z = Keepers.withClients(2);
        s.refusesEach(z, Keepers.noClientsOf(2), NO_ELEMENT, (y, none) -> y.setOffset(none, 1));
        s.refusesEach(z, Keepers.noClientsOf(2), NO_ELEMENT, (y, none) -> y.setOffset(none, 3));
        s.refusesEach(x, Keepers.noClientsOf(6), NO_ELEMENT, (y, none) -> y.setOffset(none, 1));
        s.refusesEach(new LockQuorum(), new int[] {0}, NO_ELEMENT, (y, none) -> y.setOffset(none, 1));
        s.says("Throws `IllegalArgumentException`");
        s.refusesEach(x, new int[] {-3, 3, Integer.MAX_VALUE, Integer.MIN_VALUE, Integer.MIN_VALUE + 2},
                IllegalArgumentException.class, (y, wrong) -> y.setOffset(1, wrong));
    }

    private void promise15SetPaused() {
        s.promise(15);
        s.says("Pauses a client or wakes it.");
        LockQuorum x = Keepers.withClients(6);
        x.request(2, 0, 0);
        x.read(2, 0, 0);
        x.setPaused(2, true);
        s.is("it claims no more", x.claims(2, 0), false);
        s.refuses(x, "it has no kept value", IllegalStateException.class, y -> y.kept(2, 0));
        s.refuses(x, "it cannot ask", IllegalStateException.class, y -> y.read(2, 0, 0));
        s.is("it stays the owner", x.owner(0), 2);
        x.setPaused(2, false);
        s.is("it claims again", x.claims(2, 0), true);
        s.is("it has its kept value again", x.kept(2, 0), 0);
        s.is("it can ask again", x.read(2, 0, 0), 'g');
        s.says("- `client`");
        for (int client : new int[] {0, 5}) {
            int each = client;
            x.setPaused(client, true);
            s.refuses(x, "the first or the last", IllegalStateException.class, y -> y.read(each, 0, 0));
        }
        s.is("another one", x.read(4, 0, 0), 'g');
        s.says("- `isPaused`");
        x.setPaused(5, true);
        s.refuses(x, "paused twice", IllegalStateException.class, y -> y.read(5, 0, 0));
        x.setPaused(5, false);
        s.is("woken once", x.read(5, 0, 0), 'g');
        x.setPaused(5, false);
        s.is("woken twice", x.read(5, 0, 0), 'g');
        s.says("Returns whether it was paused before.");
        s.is("awake to awake", x.setPaused(1, false), false);
        s.is("awake to paused", x.setPaused(1, true), false);
        s.is("paused to paused", x.setPaused(1, true), true);
        s.is("paused to awake", x.setPaused(1, false), true);
        s.says("Throws `NoSuchElementException`");
        s.refusesEach(x, Keepers.noClientsOf(6), NO_ELEMENT, (y, none) -> y.setPaused(none, true));
        s.refusesEach(Keepers.withClients(3), Keepers.noClientsOf(3), NO_ELEMENT,
                (y, none) -> y.setPaused(none, false));
    }

    private void promise16ClockOf() {
        s.promise(16);
        s.says("Returns the clock of a client.");
        LockQuorum x = Keepers.withClients(6);
        s.looks(x, "at time 0", 0, y -> y.clockOf(1));
        x.setOffset(1, -2);
        s.looks(x, "before 0", -2, y -> y.clockOf(1));
        x.pass(2);
        s.looks(x, "it is 0", 0, y -> y.clockOf(1));
        x.setPaused(1, true);
        x.pass(60);
        s.looks(x, "a paused client's clock goes on", 60, y -> y.clockOf(1));
        s.says("- `client`");
        x.setOffset(0, 1);
        x.setOffset(5, 2);
        s.is("the first", x.clockOf(0), 63);
        s.is("the last", x.clockOf(5), 64);
        s.says("Returns the clock.");
        s.looks(x, "without an offset, the time", x.time(), y -> y.clockOf(3));
        s.says("Throws `NoSuchElementException`");
        s.refusesEach(x, Keepers.noClientsOf(6), NO_ELEMENT, LockQuorum::clockOf);
        s.refusesEach(Keepers.withClients(1), Keepers.noClientsOf(1), NO_ELEMENT, LockQuorum::clockOf);
        s.refusesEach(new LockQuorum(), new int[] {0}, NO_ELEMENT, LockQuorum::clockOf);
    }
}
