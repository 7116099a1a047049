import java.util.NoSuchElementException;

/** "Terms" of the document, sentence by sentence: locks, requests, renewals and releases, claims, values. */
final class LockTermsEdges {
    private final Sentences s;

    LockTermsEdges(Sentences s) {
        this.s = s;
    }

    void run() {
        s.terms();
        s.runs(this::locksAreFour);
        s.runs(this::locksAreFreeAtTheirEnd);
        s.runs(this::locksHaveAQueueAndAThief);
        s.runs(this::ownersHold);
        s.runs(this::freeLocksAreGranted);
        s.runs(this::grantsEndTheft);
        s.runs(this::othersWait);
        s.runs(this::thievesGoFirst);
        s.runs(this::onlyOwnersRenewAndRelease);
        s.runs(this::thievesHinderRenewals);
        s.runs(this::renewalsMoveTheEnd);
        s.runs(this::releasesEndTheLease);
        s.runs(this::grantsAndRenewalsNoteTheClock);
        s.runs(this::claimsLastEightTicks);
        s.runs(this::claimsComeBack);
        s.runs(this::valuesAreZeroAtFirst);
        s.runs(this::readsKeepTheValue);
        s.runs(this::readsAreNotedForTenTicks);
        s.runs(this::valuesAreKeptForSixTicks);
        s.runs(this::writersClaimAndOwn);
        s.runs(this::pausedReadersBlock);
        s.runs(this::writesCallBack);
    }

    private void locksAreFour() {
        s.says("There are the locks 0 to 3.");
        LockQuorum x = Keepers.withClients(4);
        for (int lock = 0; lock < 4; lock++) {
            s.is("request of lock " + lock, x.request(lock, lock, 0), 'g');
        }
        for (int lock = 0; lock < 4; lock++) {
            s.is("owner of lock " + lock, x.owner(lock), lock);
        }
        for (int none : Keepers.NO_LOCKS) {
            s.refuses(x, "lock " + none, IndexOutOfBoundsException.class, y -> y.request(0, none, 0));
        }
    }

    private void locksAreFreeAtTheirEnd() {
        s.says("A lock has an owner up to a tick");
        LockQuorum x = Keepers.withClients(2);
        s.refuses(x, "a lock without owner", NoSuchElementException.class, y -> y.owner(0));
        x.pass(4);
        x.request(1, 0, 0);
        x.pass(11);
        s.looks(x, "owner one tick before the end", 1, y -> y.owner(0));
        x.pass(1);
        s.refuses(x, "owner at the end", NoSuchElementException.class, y -> y.owner(0));
        x.pass(1);
        s.refuses(x, "owner behind the end", NoSuchElementException.class, y -> y.owner(0));
        x.request(1, 0, 0);
        x.release(1, 0, 0);
        s.refuses(x, "owner of a released lock before its end", NoSuchElementException.class, y -> y.owner(0));
    }

    private void locksHaveAQueueAndAThief() {
        s.says("It has a queue of clients");
        LockQuorum x = Keepers.withClients(3);
        for (int lock = 0; lock < 4; lock++) {
            int each = lock;
            s.is("the queue at first", x.waiting(lock), 0);
            s.refuses(x, "the thief at first", NoSuchElementException.class, y -> y.thief(each));
        }
        x.request(0, 2, 0);
        x.request(1, 2, 0);
        s.refuses(x, "the thief of a queue", NoSuchElementException.class, y -> y.thief(2));
        x.steal(2, 2, 0);
        s.is("the queue", x.waiting(2), 2);
        s.is("the thief", x.thief(2), 2);
        s.is("another lock's queue", x.waiting(1) + x.waiting(3), 0);
    }

    private void ownersHold() {
        s.says("If the lock is not free, and the client is its owner, the answer is 'h'.");
        for (int question = 0; question < 2; question++) {
            LockQuorum x = Keepers.withClients(2);
            x.request(0, 0, 0);
            s.is("the owner at once", Keepers.ask(x, question, 0, 0, 0), 'h');
            x.steal(1, 0, 0);
            x.pass(11);
            s.is("the owner at the last tick", Keepers.ask(x, question, 0, 0, 0), 'h');
            s.is("it does not wait", x.waiting(0), 1);
            s.is("the thief stays", x.thief(0), 1);
            s.is("the end stays", x.endOf(0), 12);
            s.is("another lock", Keepers.ask(x, question, 0, 1, 0), 'g');
            x.pass(1);
            s.is("the former owner at the end", Keepers.ask(x, question, 0, 0, 0), question == 0 ? 'w' : 'm');
        }
    }

    private void freeLocksAreGranted() {
        s.says("If it is free, and its queue is empty");
        LockQuorum x = Keepers.withClients(3);
        x.pass(3);
        s.is("free, the queue is empty", x.request(0, 1, 0), 'g');
        s.is("the owner", x.owner(1), 0);
        s.is("the end", x.endOf(1), 15);
        s.is("the entry", x.kindOf(0), 'l');
        x.request(1, 1, 0);
        x.request(2, 1, 0);
        s.is("the first one, not free", x.request(1, 1, 0), 'w');
        x.pass(11);
        s.is("the first one, the last tick", x.request(1, 1, 0), 'w');
        x.pass(1);
        s.is("the second one, free", x.request(2, 1, 0), 'w');
        s.is("one that is not in it, free", x.request(0, 1, 0), 'w');
        s.is("the first one, free", x.request(1, 1, 0), 'g');
        s.is("it goes out of the queue", x.waiting(1), 2);
        s.is("the next is first", x.waitingAt(1, 0), 2);
        s.is("the new end", x.endOf(1), 27);
        s.is("the new entry", x.kindOf(1), 'l');
        x.pass(12);
        x.quit(2, 1);
        x.quit(0, 1);
        s.is("the former owner, free, the queue is empty", x.request(1, 1, 0), 'g');
    }

    private void grantsEndTheft() {
        s.says("If it is free, and its queue is empty");
        for (int question = 0; question < 2; question++) {
            LockQuorum x = Keepers.withClients(3);
            x.request(0, 0, 0);
            x.request(1, 0, 0);
            x.steal(2, 0, 0);
            x.steal(2, 1, 0);
            x.steal(0, 1, 0);
            x.pass(12);
            s.is("the grant to the thief", Keepers.ask(x, question, 2, 0, 0), 'g');
            s.refuses(x, "no thief any more", NoSuchElementException.class, y -> y.thief(0));
            s.is("another lock's thief", x.thief(1), 0);
            s.is("a renewal then", x.renew(2, 0, 0), 'g');
        }
    }

    private void othersWait() {
        s.says("Otherwise, the client goes behind the others");
        LockQuorum x = Keepers.withClients(6);
        x.request(0, 0, 0);
        for (int client = 5; client > 0; client--) {
            s.is("request", x.request(client, 0, 0), 'w');
            s.is("the last one", x.waitingAt(0, 5 - client), client);
        }
        for (int client = 1; client < 6; client++) {
            s.is("request of one that is there", x.request(client, 0, 0), 'w');
            s.is("its place stays", x.waitingAt(0, 5 - client), client);
        }
        s.is("waiting", x.waiting(0), 5);
        x.pass(12);
        s.is("the former owner", x.request(0, 0, 0), 'w');
        s.is("all six wait", x.waiting(0), 6);
        s.is("it is the last", x.waitingAt(0, 5), 0);
        s.is("the former owner again", x.request(0, 0, 0), 'w');
        s.is("still six", x.waiting(0), 6);
        s.refuses(x, "nobody is a thief", NoSuchElementException.class, y -> y.thief(0));
    }

    private void thievesGoFirst() {
        s.says("To steal is to request, but");
        LockQuorum x = Keepers.withClients(6);
        s.is("it would be granted", x.steal(0, 0, 0), 'g');
        s.is("the entry", x.kindOf(0), 'l');
        s.is("it holds", x.steal(0, 0, 0), 'h');
        s.is("it would wait, the queue is empty", x.steal(1, 0, 0), 'm');
        s.is("it waits", x.waiting(0), 1);
        x.request(2, 0, 0);
        x.request(3, 0, 0);
        s.is("one that is not in the queue", x.steal(4, 0, 0), 'm');
        s.is("the queue", queue(x, 0), "4123");
        s.is("the last of the queue", x.steal(3, 0, 0), 'm');
        s.is("the queue, the last one first", queue(x, 0), "3412");
        s.is("one in the middle of the queue", x.steal(1, 0, 0), 'm');
        s.is("the queue, one from the middle first", queue(x, 0), "1342");
        s.is("the first of the queue", x.steal(1, 0, 0), 'm');
        s.is("the queue stays", queue(x, 0), "1342");
        s.is("the thief is the last that stole", x.thief(0), 1);
        x.pass(12);
        s.is("free, but another is first", x.steal(5, 0, 0), 'm');
        s.is("the former owner", x.steal(0, 0, 0), 'm');
        s.is("all six", queue(x, 0), "051342");
        s.is("the last of six", x.steal(2, 0, 0), 'm');
        s.is("all six again", queue(x, 0), "205134");
        s.is("free, and it is first", x.steal(2, 0, 0), 'g');
        s.is("the others", queue(x, 0), "05134");
        LockQuorum y = Keepers.withClients(2);
        y.request(0, 0, 0);
        y.request(1, 0, 0);
        s.is("a first one that did not steal yet", y.steal(1, 0, 0), 'm');
        s.is("it is the thief", y.thief(0), 1);
        y.request(1, 0, 0);
        s.is("a request of the thief leaves it the thief", y.thief(0), 1);
    }

    private static String queue(LockQuorum x, int lock) {
        StringBuilder text = new StringBuilder();
        for (int index = 0; index < x.waiting(lock); index++) {
            text.append(x.waitingAt(lock, index));
        }
        return text.toString();
    }

    private void onlyOwnersRenewAndRelease() {
        s.says("If the lock is free, or the client is not its owner");
        for (int question = 2; question < 4; question++) {
            LockQuorum x = Keepers.withClients(2);
            s.is("a lock without owner", Keepers.ask(x, question, 0, 0, 0), 'o');
            x.request(0, 0, 0);
            s.is("another than the owner", Keepers.ask(x, question, 1, 0, 0), 'o');
            s.is("another lock", Keepers.ask(x, question, 0, 1, 0), 'o');
            x.pass(12);
            s.is("the owner at the end", Keepers.ask(x, question, 0, 0, 0), 'o');
            s.is("entries", x.entries(), 1);
            s.is("leased", x.leased(), 12L);
            x.request(0, 0, 0);
            x.pass(11);
            s.is("the owner at the last tick", Keepers.ask(x, question, 0, 0, 0), 'g');
        }
    }

    private void thievesHinderRenewals() {
        s.says("If there is a thief, a lease is not renewed");
        LockQuorum x = Keepers.withClients(3);
        x.request(0, 0, 0);
        x.request(1, 0, 0);
        s.is("a queue without a thief", x.renew(0, 0, 0), 'g');
        x.pass(2);
        x.steal(2, 0, 0);
        s.is("a thief", x.renew(0, 0, 0), 's');
        s.is("the end stays", x.endOf(0), 12);
        s.is("entries", x.entries(), 2);
        s.is("another than the owner, with a thief", x.renew(2, 0, 0), 'o');
        x.request(0, 1, 0);
        s.is("a thief of another lock", x.renew(0, 1, 0), 'g');
        x.pass(6);
        s.is("a claim that was not renewed", x.claims(0, 0), false);
        x.quit(2, 0);
        s.is("the thief has quit", x.renew(0, 0, 0), 'g');
        x.steal(1, 0, 0);
        x.pass(12);
        s.is("free, with a thief", x.renew(0, 0, 0), 'o');
    }

    private void renewalsMoveTheEnd() {
        s.says("When it is renewed, the end is 12 ticks");
        LockQuorum x = Keepers.withClients(1);
        x.request(0, 0, 0);
        s.is("renew in the same tick", x.renew(0, 0, 0), 'g');
        s.is("the end", x.endOf(0), 12);
        s.is("the entry", x.kindOf(1), 'r');
        x.pass(11);
        s.is("renew at the last tick", x.renew(0, 0, 0), 'g');
        s.is("the new end", x.endOf(0), 23);
        x.pass(11);
        s.is("owner at the last tick", x.owner(0), 0);
        x.pass(1);
        s.refuses(x, "owner at the new end", NoSuchElementException.class, y -> y.owner(0));
        s.is("entries", x.entries(), 3);
    }

    private void releasesEndTheLease() {
        s.says("When it is released, there is no owner any more");
        LockQuorum x = Keepers.withClients(3);
        x.request(0, 0, 0);
        x.request(0, 1, 0);
        x.steal(1, 0, 0);
        s.is("release in the same tick, with a thief", x.release(0, 0, 0), 'g');
        s.is("the entry", x.kindOf(2), 'u');
        s.refuses(x, "no owner", NoSuchElementException.class, y -> y.owner(0));
        s.refuses(x, "no owner by the log", NoSuchElementException.class, y -> y.ownerByLog(0));
        s.refuses(x, "no end", NoSuchElementException.class, y -> y.endOf(0));
        s.is("another lock's owner", x.owner(1), 0);
        s.is("release again", x.release(0, 0, 0), 'o');
        s.is("it does not jump the queue", x.request(0, 0, 0), 'w');
        s.is("the thief is granted the lock", x.request(1, 0, 0), 'g');
    }

    private void grantsAndRenewalsNoteTheClock() {
        s.says("When a lease is granted or renewed, the client notes");
        LockQuorum x = Keepers.withClients(1);
        x.setOffset(0, 2);
        x.request(0, 0, 0);
        x.setOffset(0, 0);
        x.pass(9);
        s.is("the clock at the grant was 2", x.claims(0, 0), true);
        x.pass(1);
        s.is("8 behind it", x.claims(0, 0), false);
        x.setOffset(0, -2);
        s.is("renew", x.renew(0, 0, 0), 'g');
        x.setOffset(0, 0);
        x.pass(5);
        s.is("the clock at the renewal was 8", x.claims(0, 0), true);
        s.is("'h' notes nothing", x.request(0, 0, 0), 'h');
        x.pass(1);
        s.is("8 behind the renewal", x.claims(0, 0), false);
        s.is("a write without a claim", x.write(0, 0, 0, 1), 'o');
        s.is("a read notes nothing for claims", x.read(0, 0, 0) == 'g' && x.claims(0, 0), false);
    }

    private void claimsLastEightTicks() {
        s.says("It claims the lock as long as it is awake");
        LockQuorum x = Keepers.withClients(2);
        s.is("without a lease", x.claims(0, 0), false);
        x.request(0, 0, 0);
        for (int tick = 0; tick < 10; tick++) {
            s.is("tick " + tick, x.claims(0, 0), tick < 8);
            s.is("paused at tick " + tick, !x.setPaused(0, true) && x.claims(0, 0), false);
            s.is("awake at tick " + tick, x.setPaused(0, false) && x.claims(0, 0), tick < 8);
            s.is("one that waits", x.request(1, 0, 0) == 'w' && x.claims(1, 0), false);
            x.pass(1);
        }
        LockQuorum y = Keepers.withClients(1);
        y.request(0, 0, 0);
        y.request(0, 1, 0);
        y.release(0, 0, 0);
        s.is("released", y.claims(0, 0), false);
        s.is("the other lock is not", y.claims(0, 1), true);
        y.request(0, 0, 0);
        s.is("granted since", y.claims(0, 0), true);
        y.pass(12);
        s.is("a release too late", y.release(0, 0, 0), 'o');
        y.setOffset(0, -2);
        s.is("too late, with the slowest clock", y.claims(0, 0), false);
    }

    private void claimsComeBack() {
        s.says("It claims the lock as long as it is awake");
        LockQuorum x = Keepers.withClients(1);
        x.request(0, 0, 0);
        x.setPaused(0, true);
        x.pass(7);
        x.setPaused(0, false);
        s.is("it wakes in time", x.claims(0, 0), true);
        x.pass(1);
        s.is("too late", x.claims(0, 0), false);
        x.setOffset(0, -1);
        s.is("its clock is set back", x.claims(0, 0), true);
        x.setOffset(0, 1);
        s.is("its clock is set forward", x.claims(0, 0), false);
        x.setPaused(0, true);
        x.setOffset(0, -2);
        s.is("set back, but paused", x.claims(0, 0), false);
        x.setPaused(0, false);
        s.is("set back, and awake", x.claims(0, 0), true);
        x.release(0, 0, 0);
        x.setOffset(0, -1);
        x.setOffset(0, -2);
        s.is("set back, but released", x.claims(0, 0), false);
    }

    private void valuesAreZeroAtFirst() {
        s.says("A lock has a value from 0 to 999");
        LockQuorum x = Keepers.withClients(1);
        for (int lock = 0; lock < 4; lock++) {
            s.is("value at first", x.value(lock), 0);
            x.request(0, lock, 0);
        }
        for (int value : new int[] {999, 0, 1, 998}) {
            s.is("write " + value, x.write(0, 3, 0, value), 'g');
            s.is("value", x.value(3), value);
        }
        for (int value : new int[] {-1, 1000, Integer.MAX_VALUE, Integer.MIN_VALUE}) {
            s.refuses(x, "write " + value, IllegalArgumentException.class, y -> y.write(0, 3, 0, value));
        }
        s.is("another lock's value", x.value(0) + x.value(1) + x.value(2), 0);
    }

    private void readsKeepTheValue() {
        s.says("When a client reads it, the answer is 'g'");
        LockQuorum x = Keepers.withClients(2);
        s.is("a read of a new lock", x.read(1, 0, 0), 'g');
        s.is("entries", x.entries(), 0);
        s.is("kept", x.kept(1, 0), 0);
        s.refuses(x, "for this lock alone", IllegalStateException.class, y -> y.kept(1, 1));
        s.refuses(x, "by this client alone", IllegalStateException.class, y -> y.kept(0, 0));
        x.request(0, 0, 0);
        x.write(0, 0, 0, 41);
        x.read(1, 0, 0);
        s.is("kept in place of the older one", x.kept(1, 0), 41);
        x.setOffset(1, 2);
        x.pass(5);
        x.read(1, 0, 0);
        x.setOffset(1, 0);
        x.pass(7);
        s.is("the clock at the read was 7", x.kept(1, 0), 41);
        x.pass(1);
        s.refuses(x, "6 behind it", IllegalStateException.class, y -> y.kept(1, 0));
        s.is("a read of a lock that is free", x.read(1, 0, 0), 'g');
        s.is("kept again", x.kept(1, 0), 41);
    }

    /** The read is noted by the time, not by the client's clock, and a later read goes in place of an older one. */
    private void readsAreNotedForTenTicks() {
        s.says("When a client reads it, the answer is 'g'");
        for (int offset = -2; offset <= 2; offset++) {
            LockQuorum x = Keepers.withClients(2);
            x.setOffset(1, offset);
            x.read(1, 0, 0);
            x.pass(3);
            x.read(1, 0, 0);
            x.setPaused(1, true);
            x.request(0, 0, 0);
            x.pass(7);
            x.renew(0, 0, 0);
            s.is("write 7 ticks behind the later read", x.write(0, 0, 0, 1), 'b');
            x.pass(2);
            s.is("write 9 ticks behind it", x.write(0, 0, 0, 1), 'b');
            s.is("another leader stands", x.stand(3), 5);
            s.is("it is noted for all leaders", x.write(0, 0, 3, 1), 'b');
            x.pass(1);
            s.is("write 10 ticks behind it", x.write(0, 0, 3, 1), 'g');
        }
    }

    private void valuesAreKeptForSixTicks() {
        s.says("A client that is awake has a kept value");
        LockQuorum x = Keepers.withClients(1);
        x.read(0, 2, 0);
        x.pass(5);
        s.is("5 behind", x.kept(0, 2), 0);
        x.setPaused(0, true);
        s.refuses(x, "paused", IllegalStateException.class, y -> y.kept(0, 2));
        x.setPaused(0, false);
        s.is("awake again", x.kept(0, 2), 0);
        x.pass(1);
        s.refuses(x, "6 behind", IllegalStateException.class, y -> y.kept(0, 2));
        x.setOffset(0, -1);
        s.is("set back to 5 behind", x.kept(0, 2), 0);
        x.setOffset(0, 2);
        s.refuses(x, "set forward", IllegalStateException.class, y -> y.kept(0, 2));
        x.pass(3);
        x.setOffset(0, -2);
        s.refuses(x, "9 ticks later with a clock 2 behind", IllegalStateException.class, y -> y.kept(0, 2));
    }

    private void writersClaimAndOwn() {
        s.says("To write, the client must claim the lock");
        LockQuorum x = Keepers.withClients(3);
        s.is("a lock without owner", x.write(0, 0, 0, 1), 'o');
        x.request(0, 0, 0);
        x.request(2, 1, 0);
        s.is("another lock's owner", x.write(2, 0, 0, 1), 'o');
        x.read(1, 0, 0);
        x.setPaused(1, true);
        s.is("'o' goes before 'b'", x.write(2, 0, 0, 1), 'o');
        x.setPaused(1, false);
        x.pass(7);
        s.is("7 ticks behind the grant", x.write(0, 0, 0, 1), 'g');
        x.pass(1);
        s.is("8 ticks behind it, still the owner", x.write(0, 0, 0, 2), 'o');
        x.setOffset(0, -2);
        s.is("a claim that has come back", x.write(0, 0, 0, 2), 'g');
        x.pass(1);
        x.steal(2, 0, 0);
        s.is("a thief hinders no write", x.write(0, 0, 0, 3), 'g');
        x.release(0, 0, 0);
        s.is("released", x.write(0, 0, 0, 4), 'o');
        s.is("the value", x.value(0), 3);
    }

    private void pausedReadersBlock() {
        s.says("If a client that is paused is noted");
        for (int reader = 0; reader < 6; reader++) {
            int writer = (reader + 5) % 6;
            LockQuorum x = Keepers.withClients(6);
            x.read(reader, 3, 0);
            x.setPaused(reader, true);
            x.pass(4);
            x.request(writer, 3, 0);
            x.request(writer, 2, 0);
            s.is("write, the reader is paused", x.write(writer, 3, 0, 1), 'b');
            s.is("write of another lock", x.write(writer, 2, 0, 1), 'g');
            s.is("value", x.value(3), 0);
            s.is("entries", x.entries(), 3);
            x.pass(5);
            s.is("write at tick 9", x.write(writer, 3, 0, 1), 'b');
            x.setPaused(reader, false);
            s.is("write, the reader is awake", x.write(writer, 3, 0, 1), 'g');
            x.setPaused(reader, true);
            s.is("write, nothing is noted any more", x.write(writer, 3, 0, 2), 'g');
        }
        LockQuorum x = Keepers.withClients(2);
        x.setPaused(1, true);
        x.request(0, 0, 0);
        s.is("a paused client that never read", x.write(0, 0, 0, 1), 'g');
        x.read(0, 0, 0);
        s.is("the writer has read it itself", x.write(0, 0, 0, 2), 'g');
        x.setPaused(1, false);
        x.read(1, 0, 0);
        x.setPaused(1, true);
        x.pass(9);
        x.renew(0, 0, 0);
        s.is("up to tick 10, at tick 9", x.write(0, 0, 0, 3), 'b');
        x.pass(1);
        s.is("up to tick 10, at tick 10", x.write(0, 0, 0, 3), 'g');
    }

    private void writesCallBack() {
        s.says("Otherwise, no client keeps the value of the lock any more");
        LockQuorum x = Keepers.withClients(6);
        for (int client = 0; client < 6; client++) {
            x.read(client, 1, 0);
            x.read(client, 2, 0);
        }
        x.request(0, 1, 0);
        s.is("a write of the value that it has", x.write(0, 1, 0, 0), 'g');
        s.is("the entry", x.kindOf(1), 'v');
        for (int client = 0; client < 6; client++) {
            int each = client;
            s.refuses(x, "called back", IllegalStateException.class, y -> y.kept(each, 1));
            s.is("another lock's value", x.kept(client, 2), 0);
        }
        for (int client = 1; client < 6; client++) {
            x.setPaused(client, true);
        }
        s.is("nothing is noted any more", x.write(0, 1, 0, 500), 'g');
        s.is("the new value", x.value(1), 500);
        x.request(0, 2, 0);
        s.is("the other lock's readers are noted", x.write(0, 2, 0, 1), 'b');
        x.pass(10);
        x.renew(0, 2, 0);
        s.is("their time has passed", x.write(0, 2, 0, 1), 'g');
        for (int client = 1; client < 6; client++) {
            int each = client;
            x.setPaused(client, false);
            x.setOffset(client, -2);
            s.refuses(x, "paused ones keep nothing either", IllegalStateException.class, y -> y.kept(each, 2));
        }
    }
}
