import java.util.NoSuchElementException;

/** Promises 1 to 12, sentence by sentence: time and members. */
final class MembersEdges {
    private static final Class<IndexOutOfBoundsException> NO_INDEX = IndexOutOfBoundsException.class;
    private static final Class<NoSuchElementException> NO_ELEMENT = NoSuchElementException.class;
    private static final int[] MEMBERS = {0, 1, 2, 3, 4};

    private final Sentences s;

    MembersEdges(Sentences s) {
        this.s = s;
    }

    void run() {
        s.runs(this::promise01NewObject);
        s.runs(this::promise02Pass);
        s.runs(this::promise03Time);
        s.runs(this::promise04SetDown);
        s.runs(this::promise04WhatStays);
        s.runs(this::promise05SetCut);
        s.runs(this::promise06Reached);
        s.runs(this::promise07Stand);
        s.runs(this::promise08TermOf);
        s.runs(this::promise09IsLeader);
        s.runs(this::promise10LeaderOf);
        s.runs(this::promise10LastTerms);
        s.runs(this::promise11Known);
        s.runs(this::promise12OwnerKnown);
        s.runs(this::promise12NoOwnerKnown);
    }

    private void promise01NewObject() {
        s.promise(1);
        s.says("Creates a keeper without clients, at the time 0.");
        LockQuorum x = new LockQuorum();
        s.looks(x, "time", 0, LockQuorum::time);
        s.refusesEach(x, new int[] {0, 1, 5}, NO_ELEMENT, LockQuorum::clockOf);
        s.looks(x, "entries", 0, LockQuorum::entries);
        s.looks(x, "leased", 0L, LockQuorum::leased);
        s.looks(x, "isOneOrder", true, LockQuorum::isOneOrder);
        LockQuorum y = new LockQuorum();
        x.pass(1);
        x.addClient();
        s.is("another object has its own time", y.time(), 0);
        s.is("another object has its own clients", y.addClient(), 0);
    }

    private void promise02Pass() {
        s.promise(2);
        s.says("Lets ticks pass.");
        LockQuorum x = Keepers.withClients(1);
        x.request(0, 0, 0);
        x.pass(11);
        s.is("time", x.time(), 11);
        s.is("the clock of a client", x.clockOf(0), 11);
        s.is("a lease that has a tick left", x.owner(0), 0);
        x.pass(1);
        s.refuses(x, "a lease that has none left", NO_ELEMENT, y -> y.owner(0));
        s.says("- `ticks`");
        s.is("the fewest ticks", x.pass(1), 13);
        s.is("the most ticks", x.pass(60), 73);
        s.says("Returns the time.");
        s.is("the time, not the ticks", x.pass(2), 75);
        s.says("Throws `IllegalArgumentException`");
        s.refusesEach(x, new int[] {0, 61, -1, Integer.MAX_VALUE, Integer.MIN_VALUE},
                IllegalArgumentException.class, LockQuorum::pass);
    }

    /** The longest time that an object can reach: the 512th call returns it. */
    private void promise03Time() {
        s.promise(3);
        s.says("Returns the time.");
        LockQuorum x = new LockQuorum();
        s.looks(x, "before any tick", 0, LockQuorum::time);
        x.stand(0);
        x.addClient();
        x.request(0, 0, 0);
        x.setDown(1, true);
        s.looks(x, "after calls that are no ticks", 0, LockQuorum::time);
        s.says("Returns the number of ticks");
        LockQuorum y = new LockQuorum();
        for (int i = 0; i < 511; i++) {
            y.pass(60);
        }
        s.looks(y, "after 511 calls", 511 * 60, LockQuorum::time);
    }

    private void promise04SetDown() {
        s.promise(4);
        s.says("- `member`");
        LockQuorum x = new LockQuorum();
        for (int member : MEMBERS) {
            s.is("setDown", x.setDown(member, true), false);
            s.is("those that are up", x.upShare(), (float) (4 - member) / 5.0f);
            s.is("it reaches none", x.reached(member), 0);
        }
        s.says("- `isDown`");
        s.is("down again", x.setDown(4, true) && x.reached(4) == 0, true);
        s.is("up", x.setDown(4, false) && x.reached(4) == 1, true);
        s.is("up again", !x.setDown(4, false) && x.reached(4) == 1, true);
        s.says("Returns whether it was down before.");
        s.is("up to down", x.setDown(4, true), false);
        s.is("down to down", x.setDown(4, true), true);
        s.is("down to up", x.setDown(4, false), true);
        s.is("up to up", x.setDown(4, false), false);
        s.is("another member's", x.setDown(3, false), true);
        s.says("Throws `IndexOutOfBoundsException`");
        s.refusesEach(x, Keepers.NO_MEMBERS, NO_INDEX, (y, member) -> y.setDown(member, true));
        s.refusesEach(x, Keepers.NO_MEMBERS, NO_INDEX, (y, member) -> y.setDown(member, false));
    }

    private void promise04WhatStays() {
        s.promise(4);
        s.says("Takes a member down or up");
        LockQuorum x = Keepers.withClients(1);
        x.request(0, 0, 0);
        x.setCut(0, 1, true);
        for (int member : MEMBERS) {
            x.setDown(member, true);
            s.is("the term of one that is down", x.termOf(member), 1);
            s.is("what it knows", x.known(member), 1);
            s.is("who is a leader", x.isLeader(member), member == 0);
            x.setDown(member, false);
            s.is("the term of one that is up again", x.termOf(member), 1);
            s.is("what it knows then", x.known(member), 1);
            s.is("whom it reaches then", x.reached(member), member < 2 ? 4 : 5);
        }
    }

    private void promise05SetCut() {
        s.promise(5);
        s.says("Cuts the link of two members");
        LockQuorum x = new LockQuorum();
        s.is("cut", x.setCut(1, 3, true), false);
        s.is("both reach one less", x.reached(1) + x.reached(3), 8);
        s.is("the others reach all", x.reached(0) + x.reached(2) + x.reached(4), 15);
        s.is("mended", x.setCut(1, 3, false), true);
        s.is("both reach all", x.reached(1) + x.reached(3), 10);
        s.says("- `isCut`");
        s.is("mended again", x.setCut(1, 3, false) || x.reached(1) != 5, false);
        x.setCut(1, 3, true);
        s.is("cut again", x.setCut(1, 3, true) && x.reached(1) == 4, true);
        s.says("Returns whether it was cut before.");
        s.is("the same link from the other side", x.setCut(3, 1, true), true);
        s.is("mended from the other side", x.setCut(3, 1, false), true);
        s.is("it is one link", x.setCut(1, 3, false), false);
        x.setDown(1, true);
        s.is("a link of one that is down", x.setCut(1, 3, true), false);
        x.setDown(1, false);
        s.is("it is cut when the member is up again", x.reached(1), 4);
        promise05Numbers();
    }

    private void promise05Numbers() {
        s.says("- `member`");
        LockQuorum x = new LockQuorum();
        s.is("the least member", x.setCut(0, 2, true), false);
        s.is("the greatest member", x.setCut(4, 2, true), false);
        s.is("reached", x.reached(0) * 100 + x.reached(2) * 10 + x.reached(4), 434);
        s.says("- `other`");
        s.is("the least other", x.setCut(3, 0, true), false);
        s.is("the greatest other", x.setCut(3, 4, true), false);
        s.is("reached then", x.reached(0) * 100 + x.reached(3) * 10 + x.reached(4), 333);
        s.says("Throws `IndexOutOfBoundsException`");
        s.refusesEach(x, Keepers.NO_MEMBERS, NO_INDEX, (y, none) -> y.setCut(none, 0, true));
        s.refusesEach(x, Keepers.NO_MEMBERS, NO_INDEX, (y, none) -> y.setCut(0, none, true));
        s.refusesEach(x, Keepers.NO_MEMBERS, NO_INDEX, (y, none) -> y.setCut(none, none, true));
        s.refusesEach(x, Keepers.NO_MEMBERS, NO_INDEX, (y, none) -> y.setCut(none, 4, false));
        s.says("Throws `IllegalArgumentException`");
        s.refusesEach(x, MEMBERS, IllegalArgumentException.class, (y, same) -> y.setCut(same, same, true));
        s.refusesEach(x, MEMBERS, IllegalArgumentException.class, (y, same) -> y.setCut(same, same, false));
    }

    private void promise06Reached() {
        s.promise(6);
        s.says("Returns how many members a member reaches.");
        LockQuorum x = new LockQuorum();
        s.looks(x, "all", 5, y -> y.reached(2));
        x.setCut(2, 0, true);
        x.setDown(4, true);
        s.looks(x, "without one that is cut off and one that is down", 3, y -> y.reached(2));
        s.looks(x, "a member with all links", 4, y -> y.reached(1));
        s.says("Returns the number of members, itself included");
        Keepers.cutOff(x, 2, true);
        s.looks(x, "itself alone", 1, y -> y.reached(2));
        x.setDown(2, true);
        s.looks(x, "down and cut off", 0, y -> y.reached(2));
        s.looks(x, "down, with all links", 0, y -> y.reached(4));
        for (int member : MEMBERS) {
            x.setDown(member, true);
        }
        s.looks(x, "all are down", 0, y -> y.reached(0));
        s.says("- `member`");
        for (int member : MEMBERS) {
            x.setDown(member, false);
            s.is("the only one that is up", x.reached(member), 1);
            x.setDown(member, true);
        }
        s.says("Throws `IndexOutOfBoundsException`");
        s.refusesEach(x, Keepers.NO_MEMBERS, NO_INDEX, LockQuorum::reached);
    }

    private void promise07Stand() {
        s.promise(7);
        s.says("Lets a member stand for leader.");
        LockQuorum x = new LockQuorum();
        x.stand(3);
        s.is("its term", x.termOf(3), 1);
        s.is("it is the leader", x.isLeader(3), true);
        x.stand(3);
        s.is("a leader stands again", x.isLeader(3) && x.termOf(3) == 2, true);
        s.is("a vote makes no entry", x.entries(), 0);
        s.says("- `member`");
        for (int member : MEMBERS) {
            x.stand(member);
            s.is("leaderOf", x.leaderOf(3 + member), member);
        }
        s.says("Returns the number of votes.");
        s.is("all", x.stand(0), 5);
        x.setCut(0, 1, true);
        s.is("all but one", x.stand(0), 4);
        Keepers.cutOff(x, 0, true);
        s.is("its own alone", x.stand(0), 1);
        s.says("Throws `IllegalStateException`");
        x.setDown(2, true);
        s.refuses(x, "one that is down", IllegalStateException.class, y -> y.stand(2));
        x.setDown(2, false);
        s.is("it is up again", x.stand(2), 4);
        s.says("Throws `IndexOutOfBoundsException`");
        s.refusesEach(x, Keepers.NO_MEMBERS, NO_INDEX, LockQuorum::stand);
    }

    private void promise08TermOf() {
        s.promise(8);
        s.says("Returns the term of a member.");
        LockQuorum x = new LockQuorum();
        s.looks(x, "at first", 0, y -> y.termOf(0));
        x.setDown(4, true);
        x.stand(0);
        s.looks(x, "of one that stood", 1, y -> y.termOf(0));
        s.looks(x, "of one that is down", 0, y -> y.termOf(4));
        s.says("- `member`");
        LockQuorum z = new LockQuorum();
        for (int member : MEMBERS) {
            Keepers.raiseTerm(z, member, member + 1);
        }
        s.is("the least", z.termOf(0), 1);
        s.is("the greatest", z.termOf(4), 5);
        s.says("Returns the term.");
        for (int member : MEMBERS) {
            s.looks(z, "each", member + 1, y -> y.termOf(member));
        }
        s.says("Throws `IndexOutOfBoundsException`");
        s.refusesEach(x, Keepers.NO_MEMBERS, NO_INDEX, LockQuorum::termOf);
    }

    private void promise09IsLeader() {
        s.promise(9);
        s.says("Returns whether a member is a leader, up or down.");
        LockQuorum x = new LockQuorum();
        s.looks(x, "at first, with term 0", false, y -> y.isLeader(0));
        x.stand(0);
        s.looks(x, "up", true, y -> y.isLeader(0));
        x.setDown(0, true);
        s.looks(x, "down", true, y -> y.isLeader(0));
        x.stand(1);
        s.looks(x, "down, while another leads", true, y -> y.isLeader(0));
        x.setDown(0, false);
        s.looks(x, "up again, before it hears of the other", true, y -> y.isLeader(0));
        x.stand(1);
        s.looks(x, "it has voted for the other", false, y -> y.isLeader(0));
        s.says("- `member`");
        for (int member : MEMBERS) {
            x.stand(member);
            s.is("the one that stood", x.isLeader(member), true);
            s.is("the one before it", x.isLeader((member + 4) % 5), false);
        }
        s.says("Returns whether it is.");
        Keepers.cutOff(x, 2, true);
        x.stand(2);
        s.looks(x, "one without votes of others", false, y -> y.isLeader(2));
        s.looks(x, "the leader of the older term", true, y -> y.isLeader(4));
        s.says("Throws `IndexOutOfBoundsException`");
        s.refusesEach(x, Keepers.NO_MEMBERS, NO_INDEX, LockQuorum::isLeader);
    }

    private void promise10LeaderOf() {
        s.promise(10);
        s.says("Returns the member that became the leader of a term.");
        LockQuorum x = new LockQuorum();
        x.stand(4);
        x.stand(2);
        s.looks(x, "a leader of an older term", 4, y -> y.leaderOf(1));
        s.looks(x, "the leader", 2, y -> y.leaderOf(2));
        x.setDown(2, true);
        s.looks(x, "one that is down", 2, y -> y.leaderOf(2));
        x.setDown(2, false);
        s.says("- `term`");
        x.setDown(0, true);
        x.setDown(1, true);
        x.setDown(3, true);
        x.stand(2);
        x.setDown(0, false);
        x.stand(0);
        s.refusesEach(x, new int[] {3}, NO_ELEMENT, LockQuorum::leaderOf);
        s.is("two stood for it in vain", x.termOf(2), 3);
        x.setDown(1, false);
        x.stand(2);
        s.looks(x, "the term behind one without a leader", 2, y -> y.leaderOf(4));
        s.says("Returns the number of the member.");
        for (int member : MEMBERS) {
            LockQuorum z = new LockQuorum();
            z.stand(member);
            s.looks(z, "each member", member, y -> y.leaderOf(1));
        }
        s.says("Throws `NoSuchElementException`");
        s.refusesEach(x, new int[] {0, 3, 5, -1, 511, 512, 513, 514, Integer.MAX_VALUE, Integer.MIN_VALUE},
                NO_ELEMENT, LockQuorum::leaderOf);
        s.refusesEach(new LockQuorum(), new int[] {0, 1, -1}, NO_ELEMENT, LockQuorum::leaderOf);
    }

    /** 511 calls that stand, and the 512th call asks for the last leader. */
    private void promise10LastTerms() {
        s.promise(10);
        s.says("- `term`");
        for (int member : MEMBERS) {
            LockQuorum x = new LockQuorum();
            for (int i = 0; i < 511; i++) {
                x.stand(member);
            }
            s.is("the last leader", x.leaderOf(511), member);
        }
        LockQuorum x = new LockQuorum();
        for (int i = 0; i < 511; i++) {
            x.stand(i % 5);
        }
        s.is("the 512th call stands", x.stand(1), 5);
    }

    private void promise11Known() {
        s.promise(11);
        s.says("Returns how many entries a member knows.");
        LockQuorum x = Keepers.withClients(1);
        s.looks(x, "none at first", 0, y -> y.known(0));
        x.setDown(4, true);
        x.request(0, 0, 0);
        x.setDown(3, true);
        x.renew(0, 0, 0);
        s.looks(x, "the leader", 2, y -> y.known(0));
        s.looks(x, "one that has missed the second", 1, y -> y.known(3));
        s.looks(x, "one that has missed both", 0, y -> y.known(4));
        s.says("- `member`");
        s.is("the least and the greatest", x.known(0) * 10 + x.known(4), 20);
        s.says("Returns the number of entries.");
        x.setDown(4, false);
        x.stand(1);
        s.looks(x, "a vote teaches nothing", 0, y -> y.known(4));
        x.request(0, 0, 1);
        s.looks(x, "an answer without an entry teaches nothing", 0, y -> y.known(4));
        x.renew(0, 0, 1);
        s.looks(x, "an entry teaches all", 3, y -> y.known(4));
        LockQuorum full = Keepers.withEntries(1, 250);
        s.looks(full, "all 250", 250, y -> y.known(4));
        s.says("Throws `IndexOutOfBoundsException`");
        s.refusesEach(x, Keepers.NO_MEMBERS, NO_INDEX, LockQuorum::known);
    }

    private void promise12OwnerKnown() {
        s.promise(12);
        s.says("Returns the owner of a lock by the entries");
        LockQuorum x = Keepers.withClients(6);
        x.request(5, 0, 0);
        x.write(5, 0, 0, 1);
        x.renew(5, 0, 0);
        x.setDown(4, true);
        x.pass(11);
        s.looks(x, "at the last tick", 5, y -> y.ownerKnown(0, 0));
        x.pass(1);
        s.looks(x, "at the end", 5, y -> y.ownerKnown(0, 0));
        x.pass(60);
        s.looks(x, "long behind it", 5, y -> y.ownerKnown(0, 0));
        x.request(2, 0, 0);
        s.looks(x, "the next owner", 2, y -> y.ownerKnown(3, 0));
        s.looks(x, "by one that has missed it", 5, y -> y.ownerKnown(4, 0));
        x.setDown(4, false);
        s.looks(x, "it is up, but nothing was told", 5, y -> y.ownerKnown(4, 0));
        s.says("- `member`");
        s.is("the least and the greatest", x.ownerKnown(0, 0) * 10 + x.ownerKnown(4, 0), 25);
        s.says("- `lock`");
        for (int lock = 1; lock < 4; lock++) {
            x.request(lock, lock, 0);
            s.is("each lock", x.ownerKnown(4, lock), lock);
        }
        s.is("the least lock", x.ownerKnown(4, 0), 2);
        s.says("Returns the number of the client.");
        x.request(0, 3, 0);
        x.release(3, 3, 0);
        x.request(0, 3, 0);
        s.looks(x, "client 0", 0, y -> y.ownerKnown(4, 3));
        s.says("Throws `IndexOutOfBoundsException`");
        s.refusesEach(x, Keepers.NO_MEMBERS, NO_INDEX, (y, none) -> y.ownerKnown(none, 0));
        s.refusesEach(x, Keepers.NO_LOCKS, NO_INDEX, (y, none) -> y.ownerKnown(0, none));
        s.refusesEach(x, Keepers.NO_LOCKS, NO_INDEX, (y, none) -> y.ownerKnown(5, none));
    }

    private void promise12NoOwnerKnown() {
        s.promise(12);
        s.says("Throws `NoSuchElementException`");
        LockQuorum x = Keepers.withClients(1);
        s.refuses(x, "no entries", NO_ELEMENT, y -> y.ownerKnown(0, 0));
        x.setDown(4, true);
        x.request(0, 0, 0);
        s.refuses(x, "it knows none", NO_ELEMENT, y -> y.ownerKnown(4, 0));
        s.refuses(x, "another lock", NO_ELEMENT, y -> y.ownerKnown(0, 1));
        x.setDown(4, false);
        x.write(0, 0, 0, 3);
        x.setDown(4, true);
        x.release(0, 0, 0);
        s.refuses(x, "released", NO_ELEMENT, y -> y.ownerKnown(0, 0));
        s.looks(x, "released, by one that has missed it", 0, y -> y.ownerKnown(4, 0));
    }
}
