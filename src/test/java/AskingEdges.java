import java.util.NoSuchElementException;

/** Promises 17 to 23, sentence by sentence: what clients ask, and when they are refused. */
final class AskingEdges {
    private static final Class<IndexOutOfBoundsException> NO_INDEX = IndexOutOfBoundsException.class;
    private static final Class<NoSuchElementException> NO_ELEMENT = NoSuchElementException.class;
    private static final Class<IllegalStateException> NO_STATE = IllegalStateException.class;
    /** The promises of Keepers.QUESTIONS. */
    private static final int[] PROMISES = {17, 18, 19, 20, 22, 23};

    private final Sentences s;

    AskingEdges(Sentences s) {
        this.s = s;
    }

    void run() {
        s.runs(this::promise17Request);
        s.runs(this::promise18Steal);
        s.runs(this::promise19Renew);
        s.runs(this::promise20Release);
        s.runs(this::promise21Quit);
        s.runs(this::promise21WrongQuits);
        s.runs(this::promise22Read);
        s.runs(this::promise23Write);
        s.runs(this::promise23Values);
        for (int question = 0; question < 6; question++) {
            int asked = question;
            s.promise(PROMISES[question]);
            s.runs(() -> eachNumber(asked));
            s.runs(() -> leadersThatCannotGrant(asked));
            s.runs(() -> noSuchNumber(asked));
            s.runs(() -> whoCannotAsk(asked));
            s.runs(() -> fullLog(asked));
        }
    }

    private void promise17Request() {
        s.promise(17);
        s.says("Lets a client request a lock.");
        LockQuorum x = Keepers.withClients(2);
        x.request(1, 3, 0);
        s.is("the owner", x.owner(3), 1);
        s.is("other locks are free", x.claimants(0) + x.claimants(1) + x.claimants(2), 0);
        s.says("Returns the answer");
        s.is("free", x.request(0, 0, 0), 'g');
        s.is("its own", x.request(0, 0, 0), 'h');
        s.is("another's", x.request(0, 3, 0), 'w');
        x.pass(12);
        s.is("another's at its end, it is first", x.request(0, 3, 0), 'g');
        s.is("its own at its end, nobody waits", x.request(0, 0, 0), 'g');
    }

    private void promise18Steal() {
        s.promise(18);
        s.says("Lets a client steal a lock.");
        LockQuorum x = Keepers.withClients(3);
        x.request(0, 1, 0);
        x.request(1, 1, 0);
        x.steal(2, 1, 0);
        s.is("the thief", x.thief(1), 2);
        s.is("it is the first one", x.waitingAt(1, 0), 2);
        s.is("the owner stays", x.owner(1), 0);
        s.is("it still claims", x.claims(0, 1), true);
        s.is("it can write", x.write(0, 1, 0, 4), 'g');
        s.says("Returns the answer");
        s.is("free", x.steal(1, 0, 0), 'g');
        s.is("its own", x.steal(1, 0, 0), 'h');
        s.is("another's", x.steal(0, 0, 0), 'm');
        x.pass(11);
        s.is("another's at the last tick", x.steal(0, 0, 0), 'm');
        x.pass(1);
        s.is("another's at its end, not the first one", x.steal(2, 0, 0), 'm');
        s.is("another's at its end, the first one", x.steal(2, 0, 0), 'g');
        s.is("the queue of one that was first before", x.waitingAt(0, 0), 0);
    }

    private void promise19Renew() {
        s.promise(19);
        s.says("Lets a client renew its lease.");
        LockQuorum x = Keepers.withClients(2);
        x.request(0, 0, 0);
        x.request(1, 1, 0);
        x.pass(3);
        x.renew(0, 0, 0);
        s.is("the end", x.endOf(0), 15);
        s.is("another lock's end", x.endOf(1), 12);
        s.says("Returns the answer");
        s.is("its own", x.renew(0, 0, 0), 'g');
        s.is("another's", x.renew(1, 0, 0), 'o');
        s.is("nobody's", x.renew(0, 2, 0), 'o');
        x.steal(1, 0, 0);
        s.is("its own, with a thief", x.renew(0, 0, 0), 's');
        x.pass(9);
        s.is("its own at its end", x.renew(1, 1, 0), 'o');
        x.pass(3);
        s.is("its own at its end, with a thief", x.renew(0, 0, 0), 'o');
    }

    private void promise20Release() {
        s.promise(20);
        s.says("Lets a client release a lock.");
        LockQuorum x = Keepers.withClients(2);
        x.request(0, 0, 0);
        x.request(0, 1, 0);
        x.pass(11);
        x.release(0, 0, 0);
        s.refuses(x, "the owner", NO_ELEMENT, y -> y.owner(0));
        s.is("another lock's owner", x.owner(1), 0);
        s.says("Returns the answer");
        s.is("another's", x.release(1, 1, 0), 'o');
        s.is("nobody's", x.release(1, 2, 0), 'o');
        x.steal(1, 1, 0);
        s.is("its own at the last tick, with a thief", x.release(0, 1, 0), 'g');
        s.is("released before", x.release(0, 1, 0), 'o');
        x.request(0, 0, 0);
        x.pass(12);
        s.is("its own at its end", x.release(0, 0, 0), 'o');
    }

    private void promise21Quit() {
        s.promise(21);
        LockQuorum x = Keepers.withClients(6);
        x.request(0, 0, 0);
        x.request(0, 1, 0);
        for (int client = 1; client < 6; client++) {
            x.request(client, 0, 0);
            x.request(client, 1, 0);
        }
        s.says("Takes a client out of the queue of a lock");
        s.is("from the middle", x.quit(3, 0), 4);
        s.is("the one before it", x.waitingAt(0, 1), 2);
        s.is("the one behind it", x.waitingAt(0, 2), 4);
        s.is("the last", x.quit(5, 0), 3);
        s.is("the last then", x.waitingAt(0, 2), 4);
        s.is("the first", x.quit(1, 0), 2);
        s.is("the first then", x.waitingAt(0, 0), 2);
        s.is("another lock's queue", x.waiting(1), 5);
        s.is("one that has quit waits again, behind the others", x.request(3, 0, 0), 'w');
        s.is("the last again", x.waitingAt(0, 2), 3);
        s.says("- `lock`");
        s.is("another lock", x.quit(1, 1), 4);
        s.is("lock 0 stays", x.waiting(0), 3);
        s.says("- `client`");
        s.is("the last client", x.quit(5, 1), 3);
        s.says("Returns the number of clients that are left");
        s.is("two are left", x.quit(2, 0), 2);
        s.is("one is left", x.quit(4, 0), 1);
        s.is("none is left", x.quit(3, 0), 0);
        promise21Thief();
    }

    private void promise21Thief() {
        s.says("Takes a client out of the queue of a lock");
        LockQuorum x = Keepers.withClients(4);
        x.request(0, 0, 0);
        x.steal(1, 0, 0);
        x.steal(2, 0, 0);
        x.request(3, 0, 0);
        x.request(0, 1, 0);
        x.steal(2, 1, 0);
        x.quit(1, 0);
        s.is("an older thief quits, the thief stays", x.thief(0), 2);
        x.quit(3, 0);
        s.is("another one quits, the thief stays", x.thief(0), 2);
        x.setPaused(2, true);
        s.is("the thief quits, paused, and no member is asked", x.quit(2, 0), 0);
        s.refuses(x, "no thief", NO_ELEMENT, y -> y.thief(0));
        s.is("another lock's thief", x.thief(1), 2);
        s.is("a renewal", x.renew(0, 0, 0), 'g');
        for (int member = 0; member < 5; member++) {
            x.setDown(member, true);
        }
        s.is("all members are down", x.quit(2, 1), 0);
    }

    private void promise21WrongQuits() {
        s.promise(21);
        LockQuorum x = Keepers.withClients(3);
        x.request(0, 0, 0);
        x.request(1, 0, 0);
        s.says("Throws `NoSuchElementException`");
        s.refusesEach(x, Keepers.noClientsOf(3), NO_ELEMENT, (y, none) -> y.quit(none, 0));
        s.refusesEach(x, Keepers.noClientsOf(3), NO_ELEMENT, (y, none) -> y.quit(none, 4));
        s.says("Throws `IndexOutOfBoundsException`");
        s.refusesEach(x, Keepers.NO_LOCKS, NO_INDEX, (y, none) -> y.quit(1, none));
        s.refusesEach(x, Keepers.NO_LOCKS, NO_INDEX, (y, none) -> y.quit(2, none));
        s.says("Throws `UnsupportedOperationException`");
        Class<UnsupportedOperationException> due = UnsupportedOperationException.class;
        s.refuses(x, "the owner", due, y -> y.quit(0, 0));
        s.refuses(x, "one that never waited", due, y -> y.quit(2, 0));
        s.refuses(x, "another lock's queue", due, y -> y.quit(1, 1));
        x.quit(1, 0);
        s.refuses(x, "one that has quit", due, y -> y.quit(1, 0));
        x.request(1, 0, 0);
        x.pass(12);
        x.request(1, 0, 0);
        s.refuses(x, "one that was granted the lock", due, y -> y.quit(1, 0));
    }

    private void promise22Read() {
        s.promise(22);
        s.says("Lets a client read the value of a lock.");
        LockQuorum x = Keepers.withClients(2);
        x.request(0, 2, 0);
        x.write(0, 2, 0, 999);
        x.read(1, 2, 0);
        s.is("the value", x.kept(1, 2), 999);
        s.is("nothing is claimed by it", x.claims(1, 2), false);
        s.says("Returns the answer");
        s.is("another's", x.read(1, 2, 0), 'g');
        s.is("its own", x.read(0, 2, 0), 'g');
        s.is("nobody's", x.read(1, 0, 0), 'g');
        x.pass(12);
        s.is("at its end", x.read(1, 2, 0), 'g');
        s.is("entries", x.entries(), 2);
    }

    private void promise23Write() {
        s.promise(23);
        s.says("Lets a client write the value of a lock.");
        LockQuorum x = Keepers.withClients(2);
        x.request(0, 1, 0);
        x.request(0, 2, 0);
        x.write(0, 1, 0, 321);
        s.is("the value", x.value(1), 321);
        s.is("another lock's value", x.value(2), 0);
        s.is("the end stays", x.endOf(1), 12);
        s.says("Returns the answer");
        s.is("its own", x.write(0, 1, 0, 3), 'g');
        s.is("another's", x.write(1, 1, 0, 3), 'o');
        s.is("nobody's", x.write(0, 0, 0, 3), 'o');
        x.read(1, 1, 0);
        x.setPaused(1, true);
        s.is("its own, with a paused reader", x.write(0, 1, 0, 4), 'b');
        s.is("its own, another lock's paused reader", x.write(0, 2, 0, 4), 'g');
        x.pass(8);
        s.is("its own, without a claim", x.write(0, 2, 0, 5), 'o');
    }

    private void promise23Values() {
        s.promise(23);
        s.says("- `value`");
        LockQuorum x = Keepers.withClients(1);
        x.request(0, 0, 0);
        s.is("the greatest", x.write(0, 0, 0, 999), 'g');
        s.is("it is written", x.value(0), 999);
        s.is("the least", x.write(0, 0, 0, 0), 'g');
        s.is("it is written too", x.value(0), 0);
        s.says("Throws `IllegalArgumentException`");
        int[] wrong = {-1, 1000, Integer.MAX_VALUE, Integer.MIN_VALUE};
        Class<IllegalArgumentException> due = IllegalArgumentException.class;
        s.refusesEach(x, wrong, due, (y, value) -> y.write(0, 0, 0, value));
        s.refusesEach(x, wrong, due, (y, value) -> y.write(0, 1, 0, value));
        s.refusesEach(x, wrong, due, (y, value) -> y.write(0, 0, 1, value));
        x.setDown(0, true);
        s.refusesEach(x, wrong, due, (y, value) -> y.write(0, 0, 0, value));
        x.setDown(0, false);
        x.setPaused(0, true);
        s.refusesEach(x, wrong, due, (y, value) -> y.write(0, 0, 0, value));
        s.refusesEach(Keepers.withEntries(1, 250), wrong, due, (y, value) -> y.write(0, 0, 0, value));
    }

    /** What a client that owns all four locks is answered by each leader. */
    private void eachNumber(int question) {
        char due = "hhgggg".charAt(question);
        for (int member = 0; member < 5; member++) {
            for (int client = 0; client < 6; client += 5) {
                LockQuorum x = Keepers.withClients(6);
                x.stand(member);
                for (int lock = 0; lock < 4; lock++) {
                    x.request(client, lock, member);
                    s.says("- `lock`");
                    s.is("each lock", Keepers.ask(x, question, client, lock, member), due);
                }
                s.says("- `member`");
                s.is("each member, the leader of term 2", x.leaderOf(2), member);
                s.is("the entries' term", x.termOfEntry(0), 2);
                s.says("- `client`");
                s.is("the first or the last client", x.claims(client, 3), question != 3);
            }
        }
    }

    private static boolean throwsNothing(int question, LockQuorum x) {
        Keepers.ask(x, question, 0, 0, 0);
        return true;
    }

    private void leadersThatCannotGrant(int question) {
        s.says("Returns the answer");
        LockQuorum x = Keepers.withClients(1);
        x.setDown(1, true);
        x.setDown(2, true);
        x.setCut(0, 3, true);
        s.is("two are reached", Keepers.ask(x, question, 0, 0, 0), 'n');
        x.setCut(0, 3, false);
        Keepers.cutOff(x, 4, true);
        x.stand(4);
        Keepers.cutOff(x, 4, false);
        s.is("a greater term", Keepers.ask(x, question, 0, 0, 0), 't');
        s.refuses(x, "it leads no more", NO_STATE, y -> Keepers.ask(y, question, 0, 0, 0));
        s.is("nothing was granted or noted", x.entries() + x.waiting(0) + x.claimants(0), 0);
        s.refuses(x, "nothing was kept", NO_STATE, y -> y.kept(0, 0));
    }

    private void noSuchNumber(int question) {
        LockQuorum x = Keepers.withClients(2);
        x.setPaused(1, true);
        s.says("Throws `NoSuchElementException`");
        for (int number : new int[] {0, -1, 9}) {
            s.refusesEach(x, Keepers.noClientsOf(2), NO_ELEMENT,
                    (y, none) -> Keepers.ask(y, question, none, number, number));
        }
        s.says("Throws `IndexOutOfBoundsException`");
        for (int client = 0; client < 2; client++) {
            int each = client;
            s.refusesEach(x, Keepers.NO_LOCKS, NO_INDEX, (y, none) -> Keepers.ask(y, question, each, none, 0));
            s.refusesEach(x, Keepers.NO_LOCKS, NO_INDEX, (y, none) -> Keepers.ask(y, question, each, none, 1));
            s.refusesEach(x, Keepers.NO_LOCKS, NO_INDEX, (y, none) -> Keepers.ask(y, question, each, none, 5));
            s.refusesEach(x, Keepers.NO_MEMBERS, NO_INDEX, (y, none) -> Keepers.ask(y, question, each, 0, none));
        }
    }

    private void whoCannotAsk(int question) {
        s.says("Throws `IllegalStateException`");
        LockQuorum x = Keepers.withClients(1);
        x.setPaused(0, true);
        s.refuses(x, "the client is paused", NO_STATE, y -> Keepers.ask(y, question, 0, 0, 0));
        x.setPaused(0, false);
        s.is("it is awake", throwsNothing(question, x), true);
        x.setDown(0, true);
        s.refuses(x, "the leader is down", NO_STATE, y -> Keepers.ask(y, question, 0, 0, 0));
        x.setDown(0, false);
        s.is("it is up", throwsNothing(question, x), true);
        for (int member = 1; member < 5; member++) {
            int each = member;
            s.refuses(x, "a member of the same term", NO_STATE, y -> Keepers.ask(y, question, 0, 0, each));
        }
        x.stand(2);
        s.refuses(x, "a leader of an older term", NO_STATE, y -> Keepers.ask(y, question, 0, 0, 0));
        LockQuorum z = new LockQuorum();
        z.addClient();
        s.refuses(z, "a new member, of term 0", NO_STATE, y -> Keepers.ask(y, question, 0, 0, 0));
    }

    /** With 250 entries a question is refused, also one that would be answered without an entry. */
    private void fullLog(int question) {
        s.says("Throws `IllegalStateException`");
        LockQuorum x = Keepers.withEntries(2, 249);
        x.read(1, 0, 0);
        s.is("249 entries", Keepers.ask(x, question, 0, 1, 0), "ggoogo".charAt(question));
        if (x.entries() < 250) {
            x.renew(0, 0, 0);
        }
        s.is("the last entry", x.entries(), 250);
        for (int lock = 0; lock < 4; lock++) {
            int each = lock;
            s.refuses(x, "250 entries, the owner", NO_STATE, y -> Keepers.ask(y, question, 0, each, 0));
            s.refuses(x, "250 entries, another", NO_STATE, y -> Keepers.ask(y, question, 1, each, 0));
        }
        x.pass(12);
        s.refuses(x, "250 entries, a free lock", NO_STATE, y -> Keepers.ask(y, question, 1, 0, 0));
        Keepers.raiseTerm(x, 4, 1);
        s.refuses(x, "250 entries, a greater term", NO_STATE, y -> Keepers.ask(y, question, 1, 0, 0));
        for (int member = 1; member < 5; member++) {
            x.setDown(member, true);
        }
        s.refuses(x, "250 entries, too few members", NO_STATE, y -> Keepers.ask(y, question, 1, 0, 0));
        s.refuses(x, "250 entries, no client", NO_ELEMENT, y -> Keepers.ask(y, question, 2, 0, 0));
        s.refuses(x, "250 entries, no lock", NO_INDEX, y -> Keepers.ask(y, question, 0, 4, 0));
    }
}
