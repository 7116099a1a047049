import java.lang.reflect.Array;
import java.lang.reflect.Field;

/** Promises 39 to 42, sentence by sentence: sums, shares and the check of the whole. */
final class WholeEdges {
    private final Sentences s;

    WholeEdges(Sentences s) {
        this.s = s;
    }

    void run() {
        s.runs(this::promise39Leased);
        s.runs(this::promise39Releases);
        s.runs(this::promise40UpShare);
        s.runs(this::promise41MeanKnown);
        s.runs(this::promise42IsOneOrder);
        s.runs(this::promise42TermsAndKnown);
        s.runs(this::promise42OwnersAndValues);
        s.runs(this::promise42Claims);
    }

    private void promise39Leased() {
        s.promise(39);
        s.says("Returns the sum of the ticks of all leases");
        LockQuorum x = Keepers.withClients(2);
        s.looks(x, "no leases", 0L, LockQuorum::leased);
        x.request(0, 0, 0);
        s.looks(x, "its end is still to come", 12L, LockQuorum::leased);
        x.request(0, 0, 0);
        x.request(1, 0, 0);
        s.looks(x, "answers 'h' and 'w'", 12L, LockQuorum::leased);
        x.renew(0, 0, 0);
        s.looks(x, "a renewal in the same tick", 12L, LockQuorum::leased);
        x.pass(11);
        x.renew(0, 0, 0);
        s.looks(x, "a renewal at the last tick", 23L, LockQuorum::leased);
        x.pass(12);
        s.looks(x, "at the end", 23L, LockQuorum::leased);
        x.renew(0, 0, 0);
        s.looks(x, "a renewal too late", 23L, LockQuorum::leased);
        x.pass(10);
        x.request(1, 0, 0);
        s.looks(x, "the next lease, not the ticks between", 35L, LockQuorum::leased);
        s.says("Returns the sum.");
        x.request(0, 1, 0);
        x.request(0, 2, 0);
        s.looks(x, "leases of three locks at the same time", 59L, LockQuorum::leased);
        LockQuorum z = Keepers.withClients(1);
        for (int i = 0; i < 250; i++) {
            z.request(0, 0, 0);
            z.pass(12);
        }
        s.looks(z, "250 leases", 3000L, LockQuorum::leased);
    }

    private void promise39Releases() {
        s.promise(39);
        s.says("Returns the sum of the ticks of all leases");
        LockQuorum x = Keepers.withClients(2);
        x.request(0, 0, 0);
        x.release(0, 0, 0);
        s.looks(x, "released in the same tick", 0L, LockQuorum::leased);
        x.request(0, 0, 0);
        x.pass(1);
        x.release(0, 0, 0);
        s.looks(x, "released a tick later", 1L, LockQuorum::leased);
        x.request(0, 0, 0);
        x.pass(11);
        x.release(0, 0, 0);
        s.looks(x, "released at the last tick", 12L, LockQuorum::leased);
        x.request(0, 0, 0);
        x.pass(12);
        x.release(0, 0, 0);
        s.looks(x, "a release at the end is none", 24L, LockQuorum::leased);
        x.request(0, 0, 0);
        x.pass(5);
        x.renew(0, 0, 0);
        x.pass(2);
        x.release(0, 0, 0);
        s.looks(x, "renewed and released", 31L, LockQuorum::leased);
    }

    private void promise40UpShare() {
        s.promise(40);
        LockQuorum x = new LockQuorum();
        s.says("Returns the share of the members that are up.");
        s.looks(x, "all", 1.0f, LockQuorum::upShare);
        for (int other = 1; other < 5; other++) {
            x.setCut(0, other, true);
        }
        s.looks(x, "cut links take nobody down", 1.0f, LockQuorum::upShare);
        s.says("Returns their number divided by 5");
        for (int member = 0; member < 5; member++) {
            x.setDown(member, true);
            s.looks(x, "fewer", (4 - member) / 5f, LockQuorum::upShare);
        }
        s.looks(x, "none", 0.0f, LockQuorum::upShare);
        x.setDown(3, false);
        s.looks(x, "one", 0.2f, LockQuorum::upShare);
        x.setDown(3, false);
        s.looks(x, "one, twice up", 0.2f, LockQuorum::upShare);
    }

    private void promise41MeanKnown() {
        s.promise(41);
        LockQuorum x = Keepers.withClients(1);
        s.says("Throws `ArithmeticException`");
        s.refuses(new LockQuorum(), "of a new object", ArithmeticException.class, LockQuorum::meanKnown);
        s.refuses(x, "without entries, with a leader", ArithmeticException.class, LockQuorum::meanKnown);
        x.read(0, 0, 0);
        s.refuses(x, "after a read", ArithmeticException.class, LockQuorum::meanKnown);
        s.says("Returns the mean share of the log that members know.");
        x.setDown(3, true);
        x.setDown(4, true);
        x.request(0, 0, 0);
        s.looks(x, "one entry, three members", 0.6, LockQuorum::meanKnown);
        s.says("Returns the sum of the numbers of entries");
        x.setDown(3, false);
        x.renew(0, 0, 0);
        s.looks(x, "two entries", 0.8, LockQuorum::meanKnown);
        x.setDown(3, true);
        x.renew(0, 0, 0);
        s.looks(x, "three entries", 11 / 15.0, LockQuorum::meanKnown);
        x.setDown(4, false);
        x.renew(0, 0, 0);
        s.looks(x, "four entries", 18 / 20.0, LockQuorum::meanKnown);
        x.setDown(3, false);
        x.renew(0, 0, 0);
        s.looks(x, "all know all", 1.0, LockQuorum::meanKnown);
        LockQuorum full = Keepers.withEntries(1, 249);
        full.setDown(2, true);
        full.renew(0, 0, 0);
        s.looks(full, "250 entries", 1249 / 1250.0, LockQuorum::meanKnown);
    }

    private void promise42IsOneOrder() {
        s.promise(42);
        s.says("Returns whether all of this holds.");
        s.looks(new LockQuorum(), "a new object", true, LockQuorum::isOneOrder);
        LockQuorum x = threeEntries();
        s.looks(x, "entries known by three and more", true, LockQuorum::isOneOrder);
        x.pass(12);
        s.looks(x, "the end of a lease", true, LockQuorum::isOneOrder);
        for (int member = 0; member < 5; member++) {
            x.setDown(member, true);
        }
        s.looks(x, "all members are down", true, LockQuorum::isOneOrder);
        LockQuorum z = Keepers.withClients(6);
        for (int lock = 0; lock < 4; lock++) {
            z.request(lock, lock, 0);
            z.steal(5, lock, 0);
        }
        s.looks(z, "four claimants of four locks", true, LockQuorum::isOneOrder);
        LockQuorum own = Keepers.withClients(1);
        for (int lock = 0; lock < 4; lock++) {
            own.request(0, lock, 0);
        }
        s.looks(own, "one claimant of four locks", true, LockQuorum::isOneOrder);
        s.looks(Keepers.withEntries(1, 250), "a full log", true, LockQuorum::isOneOrder);
    }

    /** No run of calls leads to disorder, so that the state itself has to be spoilt to see it found. */
    private void promise42TermsAndKnown() throws ReflectiveOperationException {
        s.promise(42);
        s.says("Checks whether the terms of entries never decrease");
        int[][] terms = {{1, 1, 1}, {1, 2, 2}, {0, 0, 9}, {2, 1, 1}, {1, 2, 1}, {1, 1, 0}};
        for (int[] each : terms) {
            LockQuorum x = threeEntries();
            for (int entry = 0; entry < 3; entry++) {
                Array.setInt(row(x, "log", "term"), entry, each[entry]);
            }
            s.is("terms", x.isOneOrder(), each[0] <= each[1] && each[1] <= each[2]);
        }
        int[][] known = {{3, 3, 3, 0, 0}, {0, 0, 3, 3, 3}, {3, 3, 2, 2, 2}, {3, 3, 0, 0, 0}, {3, 3, 0, 0, 2},
            {0, 0, 0, 0, 0}};
        for (int i = 0; i < known.length; i++) {
            LockQuorum x = threeEntries();
            for (int member = 0; member < 5; member++) {
                Array.setInt(row(x, "members", "known"), member, known[i][member]);
            }
            s.is("known, case " + i, x.isOneOrder(), i < 2);
        }
        for (int knowing = 0; knowing < 6; knowing++) {
            LockQuorum x = Keepers.withEntries(1, 1);
            for (int member = knowing; member < 5; member++) {
                Array.setInt(row(x, "members", "known"), member, 0);
            }
            s.is("one entry known by " + knowing, x.isOneOrder(), knowing >= 3);
        }
    }

    private void promise42OwnersAndValues() throws ReflectiveOperationException {
        s.promise(42);
        s.says("Checks whether the terms of entries never decrease");
        for (int lock = 0; lock < 4; lock++) {
            LockQuorum x = Keepers.withClients(2);
            x.request(0, lock, 0);
            x.write(0, lock, 0, 5);
            s.is("nothing spoilt", x.isOneOrder(), true);
            Object owners = row(x, "locks", "owner");
            Array.setInt(owners, lock, 1);
            s.is("another owner", x.isOneOrder(), false);
            Array.setInt(owners, lock, -1);
            s.is("no owner", x.isOneOrder(), false);
            Array.setInt(owners, lock, 0);
            Object ends = row(x, "locks", "end");
            Array.setInt(ends, lock, 0);
            s.is("an end that has come", x.isOneOrder(), false);
            Array.setInt(ends, lock, 12);
            Object values = row(x, "locks", "value");
            Array.setInt(values, lock, 6);
            s.is("another value", x.isOneOrder(), false);
            Array.setInt(values, lock, 5);
            s.is("mended", x.isOneOrder(), true);
            x.release(0, lock, 0);
            Array.setInt(owners, lock, 0);
            s.is("an owner of a free lock", x.isOneOrder(), false);
        }
    }

    private void promise42Claims() throws ReflectiveOperationException {
        s.promise(42);
        s.says("Checks whether the terms of entries never decrease");
        for (int lock = 0; lock < 4; lock++) {
            LockQuorum x = Keepers.withClients(6);
            x.request(0, lock, 0);
            Object leases = row(x, "clients", "leases");
            Array.setBoolean(leases, 5 * 4 + lock, true);
            s.is("claimants, spoilt", x.claimants(lock), 2);
            s.is("two claimants", x.isOneOrder(), false);
            x.setPaused(5, true);
            s.is("one of the two is paused", x.isOneOrder(), true);
        }
    }

    private static Object row(LockQuorum x, String part, String name) throws ReflectiveOperationException {
        return field(field(x, part), name);
    }

    private static Object field(Object whole, String name) throws ReflectiveOperationException {
        Field field = whole.getClass().getDeclaredField(name);
        field.setAccessible(true);
        return field.get(whole);
    }

    /** Known by five, four and three members. */
    private static LockQuorum threeEntries() {
        LockQuorum x = Keepers.withEntries(1, 1);
        x.setDown(4, true);
        x.renew(0, 0, 0);
        x.setDown(3, true);
        x.write(0, 0, 0, 5);
        return x;
    }
}
