import java.util.NoSuchElementException;
import java.util.function.BiFunction;

/** Promises 24 to 38, sentence by sentence: what is seen of locks, claims, values and entries. */
final class LooksEdges {
    private static final Class<IndexOutOfBoundsException> NO_INDEX = IndexOutOfBoundsException.class;
    private static final Class<NoSuchElementException> NO_ELEMENT = NoSuchElementException.class;
    private static final Class<IllegalStateException> NO_STATE = IllegalStateException.class;
    private static final int[] LOCKS = {0, 1, 2, 3};

    private final Sentences s;

    LooksEdges(Sentences s) {
        this.s = s;
    }

    void run() {
        s.promise(24);
        s.says("Returns the owner of a lock that is not free");
        s.runs(() -> ownersAndTheLog(LockQuorum::owner));
        s.promise(25);
        s.says("Returns the same client, found by going through all entries.");
        s.runs(() -> ownersAndTheLog(LockQuorum::ownerByLog));
        s.runs(this::promise26EndOf);
        s.runs(this::promise27Thief);
        s.runs(this::promise28Waiting);
        s.runs(this::promise29WaitingAt);
        s.runs(this::promise30Claims);
        s.runs(this::promise31Claimants);
        s.promise(32);
        s.says("Returns the value of a lock, as it is kept.");
        s.runs(() -> valuesAndTheLog(LockQuorum::value));
        s.promise(33);
        s.says("Returns the same value, found by going through all entries.");
        s.runs(() -> valuesAndTheLog(LockQuorum::valueByLog));
        s.runs(this::promise34Kept);
        s.runs(this::promise34NothingKept);
        s.runs(this::promise35Entries);
        s.runs(this::promise36KindOf);
        s.runs(this::promise37TermOfEntry);
        s.runs(this::promise38KnownBy);
    }

    /** The owner by the locks and the owner by the log are promised in the same words. */
    private void ownersAndTheLog(BiFunction<LockQuorum, Integer, Integer> owner) {
        LockQuorum x = Keepers.withClients(6);
        x.request(5, 0, 0);
        s.looks(x, "at once", 5, y -> owner.apply(y, 0));
        x.pass(11);
        s.looks(x, "at the last tick", 5, y -> owner.apply(y, 0));
        x.renew(5, 0, 0);
        x.pass(11);
        x.write(0, 0, 0, 1);
        s.looks(x, "at the last tick of a renewal", 5, y -> owner.apply(y, 0));
        x.steal(1, 0, 0);
        s.looks(x, "with a thief", 5, y -> owner.apply(y, 0));
        s.says("- `lock`");
        for (int lock : LOCKS) {
            x.request(lock, lock, 0);
        }
        s.is("each lock", owner.apply(x, 1) * 10 + owner.apply(x, 3), 13);
        s.says("Returns the number of the client.");
        x.pass(1);
        x.request(1, 0, 0);
        s.looks(x, "the next owner", 1, y -> owner.apply(y, 0));
        x.release(3, 3, 0);
        x.request(0, 3, 0);
        s.looks(x, "client 0", 0, y -> owner.apply(y, 3));
        s.says("Throws `NoSuchElementException`");
        x.release(0, 3, 0);
        s.refuses(x, "released", NO_ELEMENT, y -> owner.apply(y, 3));
        x.request(0, 3, 0);
        x.write(0, 3, 0, 2);
        x.pass(12);
        s.refusesEach(x, LOCKS, NO_ELEMENT, owner::apply);
        s.refusesEach(new LockQuorum(), LOCKS, NO_ELEMENT, owner::apply);
        locksEndOneByOne(owner);
        s.says("Throws `IndexOutOfBoundsException`");
        s.refusesEach(x, Keepers.NO_LOCKS, NO_INDEX, owner::apply);
    }

    /** Each lock is leased a tick later than the one before it, by a client that writes a great value too. */
    private void locksEndOneByOne(BiFunction<LockQuorum, Integer, Integer> owner) {
        LockQuorum x = Keepers.withClients(4);
        for (int lock : LOCKS) {
            x.request(lock, lock, 0);
            x.write(lock, lock, 0, 999);
            x.pass(1);
        }
        x.pass(7);
        for (int ended = 0; ended < 4; ended++) {
            s.is("the last tick of lock " + ended, owner.apply(x, ended), ended);
            x.pass(1);
            for (int lock : LOCKS) {
                if (lock <= ended) {
                    s.refuses(x, "its lease has ended", NO_ELEMENT, y -> owner.apply(y, lock));
                } else {
                    s.is("its lease goes on", owner.apply(x, lock), lock);
                }
            }
        }
    }

    private void promise26EndOf() {
        s.promise(26);
        s.says("Returns the end of the lease of a lock that is not free.");
        LockQuorum x = Keepers.withClients(2);
        x.pass(1);
        x.request(0, 0, 0);
        s.looks(x, "of a lease", 13, y -> y.endOf(0));
        x.pass(11);
        s.looks(x, "at the last tick", 13, y -> y.endOf(0));
        s.says("- `lock`");
        x.request(1, 3, 0);
        s.is("the last lock", x.endOf(3), 24);
        s.is("the first lock", x.endOf(0), 13);
        s.says("Returns the tick.");
        x.renew(0, 0, 0);
        s.looks(x, "of a renewal", 24, y -> y.endOf(0));
        s.says("Throws `NoSuchElementException`");
        s.refuses(x, "never owned", NO_ELEMENT, y -> y.endOf(1));
        x.release(1, 3, 0);
        s.refuses(x, "released", NO_ELEMENT, y -> y.endOf(3));
        x.pass(12);
        s.refuses(x, "at the end", NO_ELEMENT, y -> y.endOf(0));
        s.says("Throws `IndexOutOfBoundsException`");
        s.refusesEach(x, Keepers.NO_LOCKS, NO_INDEX, LockQuorum::endOf);
    }

    private void promise27Thief() {
        s.promise(27);
        s.says("Returns the thief of a lock.");
        LockQuorum x = Keepers.withClients(6);
        for (int lock : LOCKS) {
            x.request(4, lock, 0);
        }
        x.steal(1, 0, 0);
        x.steal(5, 3, 0);
        s.looks(x, "the thief", 1, y -> y.thief(0));
        x.steal(2, 0, 0);
        s.looks(x, "a later thief", 2, y -> y.thief(0));
        x.release(4, 0, 0);
        s.looks(x, "of a lock that is released", 2, y -> y.thief(0));
        x.pass(60);
        s.looks(x, "of a lock whose lease has ended", 5, y -> y.thief(3));
        s.says("- `lock`");
        s.is("the first and the last", x.thief(0) * 10 + x.thief(3), 25);
        s.says("Returns the number of the client.");
        x.steal(0, 0, 0);
        s.looks(x, "client 0", 0, y -> y.thief(0));
        s.says("Throws `NoSuchElementException`");
        x.request(3, 2, 0);
        s.refuses(x, "never stolen", NO_ELEMENT, y -> y.thief(1));
        s.refuses(x, "granted since", NO_ELEMENT, y -> y.thief(2));
        x.quit(5, 3);
        s.refuses(x, "the thief has quit", NO_ELEMENT, y -> y.thief(3));
        x.request(0, 0, 0);
        s.refuses(x, "the thief was granted the lock", NO_ELEMENT, y -> y.thief(0));
        s.says("Throws `IndexOutOfBoundsException`");
        s.refusesEach(x, Keepers.NO_LOCKS, NO_INDEX, LockQuorum::thief);
    }

    private void promise28Waiting() {
        s.promise(28);
        s.says("Returns how many clients are in the queue of a lock.");
        LockQuorum x = Keepers.withClients(6);
        s.looks(x, "empty", 0, y -> y.waiting(0));
        x.request(0, 0, 0);
        s.looks(x, "the owner does not wait", 0, y -> y.waiting(0));
        x.request(1, 0, 0);
        x.request(1, 0, 0);
        s.looks(x, "one that asked twice", 1, y -> y.waiting(0));
        s.says("Returns the number of clients.");
        for (int client = 2; client < 6; client++) {
            x.steal(client, 0, 0);
            s.looks(x, "more", client, y -> y.waiting(0));
        }
        x.pass(12);
        x.request(0, 0, 0);
        s.looks(x, "all six", 6, y -> y.waiting(0));
        x.steal(1, 0, 0);
        s.looks(x, "all six, in another order", 6, y -> y.waiting(0));
        x.request(1, 0, 0);
        s.looks(x, "one was granted the lock", 5, y -> y.waiting(0));
        s.says("- `lock`");
        x.request(2, 3, 0);
        x.request(3, 3, 0);
        s.is("the first and the last", x.waiting(0) * 10 + x.waiting(3), 51);
        s.says("Throws `IndexOutOfBoundsException`");
        s.refusesEach(x, Keepers.NO_LOCKS, NO_INDEX, LockQuorum::waiting);
    }

    private void promise29WaitingAt() {
        s.promise(29);
        s.says("Returns a client in the queue of a lock.");
        LockQuorum x = Keepers.withClients(6);
        x.request(0, 0, 0);
        x.request(0, 3, 0);
        x.request(4, 3, 0);
        for (int client = 5; client > 0; client--) {
            x.request(client, 0, 0);
        }
        s.looks(x, "the first", 5, y -> y.waitingAt(0, 0));
        s.looks(x, "the last", 1, y -> y.waitingAt(0, 4));
        s.says("- `lock`");
        s.is("another lock", x.waitingAt(3, 0), 4);
        s.says("- `index`");
        s.refusesEach(x, new int[] {5}, NO_ELEMENT, (y, index) -> y.waitingAt(0, index));
        s.refusesEach(x, new int[] {1}, NO_ELEMENT, (y, index) -> y.waitingAt(3, index));
        x.pass(12);
        x.request(0, 0, 0);
        s.is("the sixth", x.waitingAt(0, 5), 0);
        s.says("Returns the number of the client.");
        x.steal(2, 0, 0);
        for (int index = 0; index < 6; index++) {
            int each = index;
            s.looks(x, "each", "254310".charAt(index) - '0', y -> y.waitingAt(0, each));
        }
        s.says("Throws `NoSuchElementException`");
        s.refusesEach(x, new int[] {-1, 6, 7, Integer.MAX_VALUE, Integer.MIN_VALUE}, NO_ELEMENT,
                (y, index) -> y.waitingAt(0, index));
        s.refusesEach(x, new int[] {0, -1, 5}, NO_ELEMENT, (y, index) -> y.waitingAt(1, index));
        x.quit(0, 0);
        s.refusesEach(x, new int[] {5}, NO_ELEMENT, (y, index) -> y.waitingAt(0, index));
        s.says("Throws `IndexOutOfBoundsException`");
        s.refusesEach(x, Keepers.NO_LOCKS, NO_INDEX, (y, none) -> y.waitingAt(none, 0));
        s.refusesEach(x, Keepers.NO_LOCKS, NO_INDEX, (y, none) -> y.waitingAt(none, -1));
    }

    private void promise30Claims() {
        s.promise(30);
        s.says("Returns whether a client claims a lock.");
        LockQuorum x = Keepers.withClients(6);
        x.request(5, 3, 0);
        x.request(0, 0, 0);
        s.looks(x, "at once", true, y -> y.claims(5, 3));
        x.pass(7);
        s.looks(x, "7 ticks later", true, y -> y.claims(5, 3));
        x.pass(1);
        s.looks(x, "8 ticks later", false, y -> y.claims(5, 3));
        s.says("Returns whether it does.");
        s.is("renew", x.renew(5, 3, 0), 'g');
        s.looks(x, "renewed", true, y -> y.claims(5, 3));
        x.setPaused(5, true);
        s.looks(x, "paused", false, y -> y.claims(5, 3));
        x.setPaused(5, false);
        s.says("- `client`");
        x.request(0, 0, 0);
        x.renew(0, 0, 0);
        s.is("the first", x.claims(0, 0), true);
        s.is("the last", x.claims(5, 3), true);
        s.is("another", x.claims(4, 3), false);
        s.says("- `lock`");
        s.is("the first lock", x.claims(5, 0), false);
        s.is("the last lock", x.claims(0, 3), false);
        s.says("Throws `NoSuchElementException`");
        s.refusesEach(x, Keepers.noClientsOf(6), NO_ELEMENT, (y, none) -> y.claims(none, 0));
        s.refusesEach(x, Keepers.noClientsOf(6), NO_ELEMENT, (y, none) -> y.claims(none, 4));
        s.refusesEach(Keepers.withClients(2), Keepers.noClientsOf(2), NO_ELEMENT, (y, none) -> y.claims(none, 0));
        s.says("Throws `IndexOutOfBoundsException`");
        s.refusesEach(x, Keepers.NO_LOCKS, NO_INDEX, (y, none) -> y.claims(0, none));
    }

    private void promise31Claimants() {
        s.promise(31);
        s.says("Returns how many clients claim a lock.");
        LockQuorum x = Keepers.withClients(6);
        s.looks(x, "nobody", 0, y -> y.claimants(3));
        x.request(5, 3, 0);
        x.request(4, 3, 0);
        s.looks(x, "the owner alone", 1, y -> y.claimants(3));
        x.pass(8);
        s.looks(x, "an owner without a claim", 0, y -> y.claimants(3));
        s.says("Returns the number of clients.");
        x.setOffset(5, -2);
        s.looks(x, "its clock is set back", 1, y -> y.claimants(3));
        x.setPaused(5, true);
        s.looks(x, "it is paused", 0, y -> y.claimants(3));
        x.pass(4);
        x.request(4, 3, 0);
        x.setPaused(5, false);
        s.looks(x, "the next owner alone", 1, y -> y.claimants(3));
        s.says("- `lock`");
        x.request(0, 0, 0);
        s.is("the first and the last", x.claimants(0) * 10 + x.claimants(3), 11);
        s.is("the others", x.claimants(1) + x.claimants(2), 0);
        s.says("Throws `IndexOutOfBoundsException`");
        s.refusesEach(x, Keepers.NO_LOCKS, NO_INDEX, LockQuorum::claimants);
    }

    /** The value by the locks and the value by the log are promised in the same words. */
    private void valuesAndTheLog(BiFunction<LockQuorum, Integer, Integer> value) {
        LockQuorum x = Keepers.withClients(2);
        for (int lock : LOCKS) {
            s.looks(x, "without entries", 0, y -> value.apply(y, lock));
            x.request(0, lock, 0);
            s.looks(x, "without a value's entry", 0, y -> value.apply(y, lock));
        }
        x.write(0, 0, 0, 999);
        s.looks(x, "written", 999, y -> value.apply(y, 0));
        x.renew(0, 0, 0);
        x.write(1, 0, 0, 5);
        s.looks(x, "a write of another", 999, y -> value.apply(y, 0));
        x.release(0, 0, 0);
        s.looks(x, "released", 999, y -> value.apply(y, 0));
        s.says("- `lock`");
        x.write(0, 3, 0, 31);
        x.write(0, 1, 0, 11);
        s.is("each lock", value.apply(x, 0) + value.apply(x, 1) + value.apply(x, 2) + value.apply(x, 3), 1041);
        s.is("the last lock", value.apply(x, 3), 31);
        s.says("Returns the value.");
        x.write(0, 3, 0, 32);
        x.write(0, 3, 0, 0);
        s.looks(x, "0 again", 0, y -> value.apply(y, 3));
        x.pass(60);
        s.looks(x, "long behind the end", 11, y -> value.apply(y, 1));
        s.says("Throws `IndexOutOfBoundsException`");
        s.refusesEach(x, Keepers.NO_LOCKS, NO_INDEX, value::apply);
    }

    private void promise34Kept() {
        s.promise(34);
        s.says("Returns the value that a client has kept for a lock.");
        LockQuorum x = Keepers.withClients(6);
        for (int lock : LOCKS) {
            x.request(0, lock, 0);
            x.write(0, lock, 0, 100 + lock);
            x.read(5, lock, 0);
        }
        s.looks(x, "kept", 103, y -> y.kept(5, 3));
        x.pass(5);
        s.looks(x, "5 ticks later", 103, y -> y.kept(5, 3));
        s.says("Returns the value.");
        x.release(0, 3, 0);
        s.looks(x, "a release calls nothing back", 103, y -> y.kept(5, 3));
        x.renew(0, 2, 0);
        s.looks(x, "nor does a renewal", 102, y -> y.kept(5, 2));
        s.says("- `client`");
        x.read(0, 3, 0);
        s.is("the first", x.kept(0, 3), 103);
        s.is("the last", x.kept(5, 3), 103);
        s.says("- `lock`");
        for (int lock : LOCKS) {
            s.is("each lock", x.kept(5, lock), 100 + lock);
        }
        s.says("Throws `NoSuchElementException`");
        s.refusesEach(x, Keepers.noClientsOf(6), NO_ELEMENT, (y, none) -> y.kept(none, 0));
        s.refusesEach(x, Keepers.noClientsOf(6), NO_ELEMENT, (y, none) -> y.kept(none, 4));
        s.says("Throws `IndexOutOfBoundsException`");
        s.refusesEach(x, Keepers.NO_LOCKS, NO_INDEX, (y, none) -> y.kept(5, none));
        s.refusesEach(x, Keepers.NO_LOCKS, NO_INDEX, (y, none) -> y.kept(1, none));
    }

    private void promise34NothingKept() {
        s.promise(34);
        s.says("Throws `IllegalStateException`");
        LockQuorum x = Keepers.withClients(2);
        s.refuses(x, "it has none", NO_STATE, y -> y.kept(1, 0));
        x.read(1, 0, 0);
        s.refuses(x, "it has none for this lock", NO_STATE, y -> y.kept(1, 1));
        s.refuses(x, "another has none", NO_STATE, y -> y.kept(0, 0));
        x.setPaused(1, true);
        s.refuses(x, "it is paused", NO_STATE, y -> y.kept(1, 0));
        x.setPaused(1, false);
        s.looks(x, "it is awake", 0, y -> y.kept(1, 0));
        x.pass(6);
        s.refuses(x, "its clock is 6 behind", NO_STATE, y -> y.kept(1, 0));
        x.setOffset(1, -1);
        s.looks(x, "its clock is set back", 0, y -> y.kept(1, 0));
        x.request(0, 0, 0);
        x.write(0, 0, 0, 0);
        s.refuses(x, "it was called back", NO_STATE, y -> y.kept(1, 0));
    }

    private void promise35Entries() {
        s.promise(35);
        s.says("Returns the number of entries.");
        s.looks(new LockQuorum(), "none", 0, LockQuorum::entries);
        LockQuorum x = Keepers.withClients(2);
        x.request(0, 0, 0);
        s.looks(x, "a lease", 1, LockQuorum::entries);
        x.renew(0, 0, 0);
        x.write(0, 0, 0, 1);
        x.release(0, 0, 0);
        s.looks(x, "one of each kind", 4, LockQuorum::entries);
        x.release(0, 0, 0);
        x.read(0, 0, 0);
        x.stand(1);
        x.pass(1);
        s.looks(x, "calls that make none", 4, LockQuorum::entries);
        s.looks(Keepers.withEntries(1, 250), "all", 250, LockQuorum::entries);
    }

    /** One entry of each kind, of terms 1, 2, 2 and 5. */
    private static LockQuorum fourEntries() {
        LockQuorum x = Keepers.withClients(1);
        x.request(0, 2, 0);
        x.stand(1);
        x.renew(0, 2, 1);
        x.setDown(4, true);
        x.write(0, 2, 1, 9);
        x.stand(2);
        x.stand(2);
        x.stand(3);
        x.setDown(0, true);
        x.release(0, 2, 3);
        return x;
    }

    private void noSuchEntry(BiFunction<LockQuorum, Integer, Object> look) {
        s.says("Throws `NoSuchElementException`");
        int[] none = {-1, 4, 249, 250, Integer.MAX_VALUE, Integer.MIN_VALUE};
        s.refusesEach(fourEntries(), none, NO_ELEMENT, look);
        s.refusesEach(new LockQuorum(), new int[] {0, -1, 1}, NO_ELEMENT, look);
        s.refusesEach(Keepers.withEntries(1, 250), new int[] {250, 251, -1}, NO_ELEMENT, look);
        s.refusesEach(Keepers.withEntries(1, 249), new int[] {249}, NO_ELEMENT, look);
    }

    private void promise36KindOf() {
        s.promise(36);
        s.says("Returns the kind of an entry.");
        LockQuorum x = fourEntries();
        s.looks(x, "of a lease", 'l', y -> y.kindOf(0));
        s.says("Returns 'l', 'r', 'u' or 'v'.");
        s.looks(x, "of a renewal", 'r', y -> y.kindOf(1));
        s.looks(x, "of a value", 'v', y -> y.kindOf(2));
        s.looks(x, "of a release", 'u', y -> y.kindOf(3));
        s.says("- `entry`");
        LockQuorum full = Keepers.withEntries(1, 250);
        s.is("the first of 250", full.kindOf(0), 'l');
        s.is("the last of 250", full.kindOf(249), 'r');
        noSuchEntry(LockQuorum::kindOf);
    }

    private void promise37TermOfEntry() {
        s.promise(37);
        s.says("Returns the term of an entry.");
        LockQuorum x = fourEntries();
        s.looks(x, "of a leader", 1, y -> y.termOfEntry(0));
        s.says("Returns the term.");
        s.looks(x, "of the next leader", 2, y -> y.termOfEntry(1));
        s.looks(x, "of the same leader", 2, y -> y.termOfEntry(2));
        s.looks(x, "terms without entries between", 5, y -> y.termOfEntry(3));
        s.says("- `entry`");
        LockQuorum full = Keepers.withEntries(1, 249);
        full.stand(4);
        full.renew(0, 0, 4);
        s.is("the first of 250", full.termOfEntry(0), 1);
        s.is("the last of 250", full.termOfEntry(249), 2);
        noSuchEntry(LockQuorum::termOfEntry);
    }

    private void promise38KnownBy() {
        s.promise(38);
        s.says("Returns how many members know an entry.");
        LockQuorum x = fourEntries();
        s.looks(x, "all", 5, y -> y.knownBy(1));
        s.looks(x, "all but one that was down", 4, y -> y.knownBy(2));
        s.looks(x, "all but two that were down", 3, y -> y.knownBy(3));
        s.says("Returns the number of members.");
        for (int member = 0; member < 5; member++) {
            x.setDown(member, true);
        }
        s.looks(x, "those that know it, up or down", 3, y -> y.knownBy(3));
        s.says("- `entry`");
        LockQuorum full = Keepers.withEntries(1, 249);
        full.setDown(1, true);
        full.renew(0, 0, 0);
        s.is("the first of 250", full.knownBy(0), 5);
        s.is("the last of 250", full.knownBy(249), 4);
        noSuchEntry(LockQuorum::knownBy);
    }
}
