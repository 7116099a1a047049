import java.util.NoSuchElementException;

/** Promises 17 to 21, 24 to 31 and 39: leases, queues, thieves and claims. */
public final class LeasesTest {
    private static final Check CHECK = new Check();
    private static final int[] NO_LOCKS = {-1, 4, Integer.MAX_VALUE, Integer.MIN_VALUE};
    private static final int[] NO_CLIENTS = {-1, 3, 6, Integer.MAX_VALUE, Integer.MIN_VALUE};

    public static void main(String[] args) {
        promise17Request();
        promise17Queue();
        promise18Steal();
        promise18StealOfFreeLock();
        promise19Renew();
        promise20Release();
        promise21Quit();
        promises24To26Owner();
        promise27Thief();
        promises28And29Waiting();
        promise30Claims();
        promise30ClaimsThatComeBack();
        promise31Claimants();
        promise39Leased();
        CHECK.finish("LeasesTest");
    }

    private static void promise17Request() {
        LockQuorum x = threeClients();
        CHECK.is("request(0, 0)", x.request(0, 0, 0), 'g');
        CHECK.is("the entry", x.kindOf(0), 'l');
        CHECK.is("request(0, 0) again", x.request(0, 0, 0), 'h');
        CHECK.is("request(1, 0)", x.request(1, 0, 0), 'w');
        CHECK.is("request(1, 0) again", x.request(1, 0, 0), 'w');
        CHECK.is("one place in the queue", x.waiting(0), 1);
        CHECK.is("another lock", x.request(1, 1, 0), 'g');
        CHECK.is("entries", x.entries(), 2);
        x.pass(11);
        CHECK.is("request(0, 0) before the end", x.request(0, 0, 0), 'h');
        CHECK.is("request(1, 0) before the end", x.request(1, 0, 0), 'w');
        x.pass(1);
        CHECK.is("request(1, 0) at the end", x.request(1, 0, 0), 'g');
        CHECK.is("owner(0)", x.owner(0), 1);
        CHECK.is("endOf(0)", x.endOf(0), 24);
        CHECK.is("it left the queue", x.waiting(0), 0);
    }

    private static void promise17Queue() {
        LockQuorum x = threeClients();
        x.request(0, 2, 0);
        x.request(1, 2, 0);
        x.request(2, 2, 0);
        x.release(0, 2, 0);
        CHECK.is("the second of the queue", x.request(2, 2, 0), 'w');
        CHECK.is("one that is not in the queue", x.request(0, 2, 0), 'w');
        CHECK.is("waitingAt(2, 2)", x.waitingAt(2, 2), 0);
        CHECK.is("the first of the queue", x.request(1, 2, 0), 'g');
        CHECK.is("the next is first", x.waitingAt(2, 0), 2);
        CHECK.is("and then", x.waitingAt(2, 1), 0);
        CHECK.is("waiting(2)", x.waiting(2), 2);
        x.pass(60);
        CHECK.is("the former owner, not in the queue", x.request(1, 2, 0), 'w');
    }

    private static void promise18Steal() {
        LockQuorum x = threeClients();
        CHECK.is("steal of a free lock", x.steal(0, 0, 0), 'g');
        CHECK.fails("no thief by a grant", NoSuchElementException.class, () -> x.thief(0));
        CHECK.is("steal by the owner", x.steal(0, 0, 0), 'h');
        x.request(1, 0, 0);
        CHECK.is("steal(2, 0)", x.steal(2, 0, 0), 'm');
        CHECK.is("the thief is first", x.waitingAt(0, 0), 2);
        CHECK.is("the other goes back", x.waitingAt(0, 1), 1);
        CHECK.is("thief(0)", x.thief(0), 2);
        CHECK.is("steal(1, 0) from the queue", x.steal(1, 0, 0), 'm');
        CHECK.is("the new thief is first", x.waitingAt(0, 0), 1);
        CHECK.is("the older thief is second", x.waitingAt(0, 1), 2);
        CHECK.is("nobody is twice in it", x.waiting(0), 2);
        CHECK.is("the new thief", x.thief(0), 1);
        CHECK.is("the owner stays", x.owner(0), 0);
        CHECK.is("the thief requests", x.request(1, 0, 0), 'w');
        CHECK.is("the thief keeps its place", x.waitingAt(0, 0), 1);
        CHECK.is("no entries by this", x.entries(), 1);
        x.pass(12);
        CHECK.is("the thief gets it", x.steal(1, 0, 0), 'g');
        CHECK.fails("no thief any more", NoSuchElementException.class, () -> x.thief(0));
        CHECK.is("the older thief waits", x.waiting(0), 1);
    }

    private static void promise18StealOfFreeLock() {
        LockQuorum x = threeClients();
        x.request(0, 1, 0);
        x.request(1, 1, 0);
        x.release(0, 1, 0);
        CHECK.is("steal of a free lock with a queue", x.steal(2, 1, 0), 'm');
        CHECK.is("it is first", x.waitingAt(1, 0), 2);
        CHECK.is("steal again", x.steal(2, 1, 0), 'g');
        CHECK.is("owner(1)", x.owner(1), 2);
        CHECK.is("the queue", x.waitingAt(1, 0), 1);
        CHECK.is("renewal without a thief", x.renew(2, 1, 0), 'g');
    }

    private static void promise19Renew() {
        LockQuorum x = threeClients();
        CHECK.is("renew of a lock without owner", x.renew(0, 0, 0), 'o');
        x.request(0, 0, 0);
        x.pass(5);
        CHECK.is("renew by another", x.renew(1, 0, 0), 'o');
        CHECK.is("renew", x.renew(0, 0, 0), 'g');
        CHECK.is("endOf(0)", x.endOf(0), 17);
        CHECK.is("the entry", x.kindOf(1), 'r');
        x.request(1, 0, 0);
        CHECK.is("a waiting client hinders nothing", x.renew(0, 0, 0), 'g');
        x.steal(2, 0, 0);
        CHECK.is("a thief does", x.renew(0, 0, 0), 's');
        CHECK.is("'o' goes before 's'", x.renew(1, 0, 0), 'o');
        CHECK.is("the end stays", x.endOf(0), 17);
        x.quit(2, 0);
        x.pass(11);
        CHECK.is("renew at the last tick", x.renew(0, 0, 0), 'g');
        CHECK.is("endOf(0) then", x.endOf(0), 28);
        x.pass(12);
        CHECK.is("renew at the end", x.renew(0, 0, 0), 'o');
        CHECK.is("entries", x.entries(), 4);
    }

    private static void promise20Release() {
        LockQuorum x = threeClients();
        CHECK.is("release of a lock without owner", x.release(0, 3, 0), 'o');
        x.request(0, 3, 0);
        CHECK.is("release by another", x.release(1, 3, 0), 'o');
        x.steal(1, 3, 0);
        CHECK.is("release with a thief", x.release(0, 3, 0), 'g');
        CHECK.is("the entry", x.kindOf(1), 'u');
        CHECK.is("release again", x.release(0, 3, 0), 'o');
        CHECK.fails("owner(3)", NoSuchElementException.class, () -> x.owner(3));
        CHECK.is("the thief stays", x.thief(3), 1);
        CHECK.is("the queue stays", x.waiting(3), 1);
        CHECK.is("claims(0, 3)", x.claims(0, 3), false);
        CHECK.is("request(1, 3)", x.request(1, 3, 0), 'g');
        x.pass(12);
        CHECK.is("release at the end", x.release(1, 3, 0), 'o');
        CHECK.is("entries", x.entries(), 3);
    }

    private static void promise21Quit() {
        LockQuorum x = threeClients();
        x.request(0, 0, 0);
        x.request(1, 0, 0);
        x.steal(2, 0, 0);
        x.request(1, 1, 0);
        CHECK.is("quit(1, 0)", x.quit(1, 0), 1);
        CHECK.is("the thief stays", x.thief(0), 2);
        CHECK.is("the other stays", x.waitingAt(0, 0), 2);
        x.setPaused(2, true);
        CHECK.is("quit(2, 0) of a paused thief", x.quit(2, 0), 0);
        CHECK.fails("no thief any more", NoSuchElementException.class, () -> x.thief(0));
        CHECK.fails("quit(2, 0) again", UnsupportedOperationException.class, () -> x.quit(2, 0));
        CHECK.fails("quit of the owner", UnsupportedOperationException.class, () -> x.quit(0, 0));
        CHECK.is("renewed again", x.renew(0, 0, 0), 'g');
        CHECK.is("quit makes no entry", x.entries(), 3);
        for (int none : NO_CLIENTS) {
            CHECK.fails("quit(none, 9)", NoSuchElementException.class, () -> x.quit(none, 9));
        }
        for (int none : NO_LOCKS) {
            CHECK.fails("quit(0, none)", IndexOutOfBoundsException.class, () -> x.quit(0, none));
        }
    }

    private static void promises24To26Owner() {
        LockQuorum x = threeClients();
        x.pass(3);
        x.request(2, 1, 0);
        CHECK.is("owner(1)", x.owner(1), 2);
        CHECK.is("ownerByLog(1)", x.ownerByLog(1), 2);
        CHECK.is("endOf(1)", x.endOf(1), 15);
        isFree(x, 0);
        x.pass(5);
        x.renew(2, 1, 0);
        x.write(2, 1, 0, 3);
        x.pass(11);
        CHECK.is("owner(1) at the last tick", x.owner(1), 2);
        CHECK.is("ownerByLog(1) at the last tick", x.ownerByLog(1), 2);
        CHECK.is("endOf(1) at the last tick", x.endOf(1), 20);
        x.pass(1);
        isFree(x, 1);
        x.request(0, 1, 0);
        CHECK.is("the next owner(1)", x.owner(1), 0);
        CHECK.is("the next ownerByLog(1)", x.ownerByLog(1), 0);
        x.release(0, 1, 0);
        isFree(x, 1);
        for (int none : NO_LOCKS) {
            CHECK.fails("owner(none)", IndexOutOfBoundsException.class, () -> x.owner(none));
            CHECK.fails("ownerByLog(none)", IndexOutOfBoundsException.class, () -> x.ownerByLog(none));
            CHECK.fails("endOf(none)", IndexOutOfBoundsException.class, () -> x.endOf(none));
        }
    }

    private static void isFree(LockQuorum x, int lock) {
        CHECK.fails("owner, free", NoSuchElementException.class, () -> x.owner(lock));
        CHECK.fails("ownerByLog, free", NoSuchElementException.class, () -> x.ownerByLog(lock));
        CHECK.fails("endOf, free", NoSuchElementException.class, () -> x.endOf(lock));
    }

    private static void promise27Thief() {
        LockQuorum x = threeClients();
        x.request(0, 0, 0);
        CHECK.fails("thief(0), none", NoSuchElementException.class, () -> x.thief(0));
        x.steal(1, 0, 0);
        CHECK.is("thief(0)", x.thief(0), 1);
        CHECK.fails("thief(1), none", NoSuchElementException.class, () -> x.thief(1));
        x.pass(60);
        CHECK.is("thief(0), also of a free lock", x.thief(0), 1);
        for (int none : NO_LOCKS) {
            CHECK.fails("thief(none)", IndexOutOfBoundsException.class, () -> x.thief(none));
        }
    }

    private static void promises28And29Waiting() {
        LockQuorum x = threeClients();
        x.addClient();
        x.addClient();
        x.addClient();
        x.request(0, 0, 0);
        for (int client = 1; client < 6; client++) {
            x.request(client, 0, 0);
            CHECK.is("waiting(0)", x.waiting(0), client);
            CHECK.is("waitingAt(0, last)", x.waitingAt(0, client - 1), client);
        }
        x.pass(12);
        CHECK.is("the sixth in the queue", x.request(0, 0, 0), 'w');
        CHECK.is("waiting(0), all", x.waiting(0), 6);
        CHECK.is("steal by the last of all", x.steal(0, 0, 0), 'm');
        CHECK.is("waitingAt(0, 0)", x.waitingAt(0, 0), 0);
        CHECK.is("waitingAt(0, 5)", x.waitingAt(0, 5), 5);
        x.quit(3, 0);
        CHECK.is("waitingAt(0, 2)", x.waitingAt(0, 2), 2);
        CHECK.is("waitingAt(0, 3)", x.waitingAt(0, 3), 4);
        CHECK.is("waitingAt(0, 4)", x.waitingAt(0, 4), 5);
        for (int none : new int[] {-1, 5, 6, Integer.MAX_VALUE, Integer.MIN_VALUE}) {
            CHECK.fails("waitingAt(0, none)", NoSuchElementException.class, () -> x.waitingAt(0, none));
        }
        CHECK.fails("waitingAt(1, 0)", NoSuchElementException.class, () -> x.waitingAt(1, 0));
        for (int none : NO_LOCKS) {
            CHECK.fails("waiting(none)", IndexOutOfBoundsException.class, () -> x.waiting(none));
            CHECK.fails("waitingAt(none, -1)", IndexOutOfBoundsException.class, () -> x.waitingAt(none, -1));
        }
    }

    private static void promise30Claims() {
        LockQuorum x = threeClients();
        CHECK.is("claims without a lease", x.claims(0, 0), false);
        x.request(0, 0, 0);
        CHECK.is("claims(0, 0)", x.claims(0, 0), true);
        CHECK.is("claims(1, 0)", x.claims(1, 0), false);
        CHECK.is("claims(0, 1)", x.claims(0, 1), false);
        x.pass(7);
        CHECK.is("claims after 7", x.claims(0, 0), true);
        x.pass(1);
        CHECK.is("claims after 8", x.claims(0, 0), false);
        x.renew(0, 0, 0);
        x.pass(7);
        CHECK.is("claims 7 after the renewal", x.claims(0, 0), true);
        x.request(0, 0, 0);
        x.pass(1);
        CHECK.is("'h' notes no clock", x.claims(0, 0), false);
        for (int none : NO_CLIENTS) {
            CHECK.fails("claims(none, 9)", NoSuchElementException.class, () -> x.claims(none, 9));
        }
        for (int none : NO_LOCKS) {
            CHECK.fails("claims(0, none)", IndexOutOfBoundsException.class, () -> x.claims(0, none));
        }
    }

    private static void promise30ClaimsThatComeBack() {
        LockQuorum x = threeClients();
        x.request(0, 0, 0);
        x.setPaused(0, true);
        CHECK.is("claims, paused", x.claims(0, 0), false);
        x.setPaused(0, false);
        CHECK.is("claims, awake again", x.claims(0, 0), true);
        x.pass(8);
        x.setOffset(0, -1);
        CHECK.is("claims, the clock set back", x.claims(0, 0), true);
        x.setOffset(0, 2);
        CHECK.is("claims, the clock set forward", x.claims(0, 0), false);
        x.setOffset(0, -2);
        x.pass(1);
        CHECK.is("claims after 9 ticks and a clock 2 behind", x.claims(0, 0), true);
        x.pass(1);
        CHECK.is("claims after 10 ticks and a clock 2 behind", x.claims(0, 0), false);
        LockQuorum y = threeClients();
        y.request(0, 0, 0);
        y.release(0, 0, 0);
        y.setOffset(0, -2);
        CHECK.is("claims, released", y.claims(0, 0), false);
        y.request(0, 0, 0);
        CHECK.is("claims, granted again", y.claims(0, 0), true);
        y.setOffset(0, 0);
        y.pass(6);
        CHECK.is("the clock, not the time, was noted", y.claims(0, 0), false);
        y.release(1, 0, 0);
        y.setOffset(0, -2);
        CHECK.is("another's wrong release changes nothing", y.claims(0, 0), true);
    }

    private static void promise31Claimants() {
        LockQuorum x = threeClients();
        x.request(1, 2, 0);
        CHECK.is("claimants(2)", x.claimants(2), 1);
        CHECK.is("claimants(1)", x.claimants(1), 0);
        x.setPaused(1, true);
        CHECK.is("claimants(2), paused", x.claimants(2), 0);
        x.pass(12);
        x.request(2, 2, 0);
        x.setPaused(1, false);
        x.setOffset(1, -2);
        CHECK.is("claimants(2), the next", x.claimants(2), 1);
        x.pass(8);
        CHECK.is("claimants(2), none any more", x.claimants(2), 0);
        for (int none : NO_LOCKS) {
            CHECK.fails("claimants(none)", IndexOutOfBoundsException.class, () -> x.claimants(none));
        }
    }

    private static void promise39Leased() {
        LockQuorum x = threeClients();
        x.request(0, 0, 0);
        CHECK.is("leased() of one to come", x.leased(), 12L);
        x.pass(5);
        x.request(1, 1, 0);
        CHECK.is("leased() of two", x.leased(), 24L);
        x.renew(0, 0, 0);
        CHECK.is("leased() after a renewal", x.leased(), 29L);
        x.pass(3);
        x.release(0, 0, 0);
        CHECK.is("leased() after a release", x.leased(), 20L);
        x.pass(60);
        CHECK.is("leased() after the end", x.leased(), 20L);
        x.release(1, 1, 0);
        CHECK.is("leased() after a release that is none", x.leased(), 20L);
        x.request(2, 0, 0);
        x.release(2, 0, 0);
        CHECK.is("leased() after a lease of no tick", x.leased(), 20L);
    }

    private static LockQuorum threeClients() {
        LockQuorum x = new LockQuorum();
        x.stand(0);
        x.addClient();
        x.addClient();
        x.addClient();
        return x;
    }
}
