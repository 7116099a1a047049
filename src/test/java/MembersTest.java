import java.util.NoSuchElementException;

/** Promises 4 to 12: members, links, votes, terms, and what members know. */
public final class MembersTest {
    private static final Check CHECK = new Check();
    private static final int[] NO_MEMBERS = {-1, 5, Integer.MAX_VALUE, Integer.MIN_VALUE};
    private static final int[] NO_LOCKS = {-1, 4, Integer.MAX_VALUE, Integer.MIN_VALUE};

    public static void main(String[] args) {
        promise04SetDown();
        promise05SetCut();
        promise06Reached();
        promise07Stand();
        promise07Votes();
        promise08TermOf();
        promise09IsLeader();
        promise10LeaderOf();
        promise11Known();
        promise12OwnerKnown();
        refusalsOfLeaders();
        termsTakenWhenAsking();
        CHECK.finish("MembersTest");
    }

    private static void promise04SetDown() {
        LockQuorum x = new LockQuorum();
        CHECK.is("setDown(2, true)", x.setDown(2, true), false);
        CHECK.is("setDown(2, true) again", x.setDown(2, true), true);
        CHECK.is("reached(2) down", x.reached(2), 0);
        CHECK.is("setDown(2, false)", x.setDown(2, false), true);
        CHECK.is("setDown(2, false) again", x.setDown(2, false), false);
        CHECK.is("reached(2) up", x.reached(2), 5);
        x.stand(2);
        x.addClient();
        x.request(0, 0, 2);
        x.setDown(2, true);
        CHECK.is("term stays", x.termOf(2), 1);
        CHECK.is("known stays", x.known(2), 1);
        CHECK.is("leader stays", x.isLeader(2), true);
        for (int member : NO_MEMBERS) {
            CHECK.fails("setDown(" + member + ")", IndexOutOfBoundsException.class, () -> x.setDown(member, true));
        }
    }

    private static void promise05SetCut() {
        LockQuorum x = new LockQuorum();
        CHECK.is("setCut(0, 4, true)", x.setCut(0, 4, true), false);
        CHECK.is("setCut(4, 0, true): the same link", x.setCut(4, 0, true), true);
        CHECK.is("reached(0) cut", x.reached(0), 4);
        CHECK.is("reached(4) cut", x.reached(4), 4);
        CHECK.is("reached(1) not cut", x.reached(1), 5);
        CHECK.is("setCut(4, 0, false)", x.setCut(4, 0, false), true);
        CHECK.is("setCut(0, 4, false)", x.setCut(0, 4, false), false);
        CHECK.is("reached(0) mended", x.reached(0), 5);
        for (int none : NO_MEMBERS) {
            CHECK.fails("setCut(0, none)", IndexOutOfBoundsException.class, () -> x.setCut(0, none, true));
            CHECK.fails("setCut(none, 0)", IndexOutOfBoundsException.class, () -> x.setCut(none, 0, true));
            CHECK.fails("setCut(none, none)", IndexOutOfBoundsException.class, () -> x.setCut(none, none, true));
        }
        for (int member = 0; member < 5; member++) {
            int same = member;
            CHECK.fails("setCut of one", IllegalArgumentException.class, () -> x.setCut(same, same, true));
            CHECK.is("reached after wrong cuts", x.reached(member), 5);
        }
    }

    private static void promise06Reached() {
        LockQuorum x = new LockQuorum();
        x.setDown(1, true);
        x.setCut(0, 2, true);
        CHECK.is("reached(0): itself, 3 and 4", x.reached(0), 3);
        CHECK.is("reached(1) down", x.reached(1), 0);
        CHECK.is("reached(2)", x.reached(2), 3);
        CHECK.is("reached(3)", x.reached(3), 4);
        x.setCut(0, 3, true);
        x.setCut(0, 4, true);
        CHECK.is("reached(0): itself alone", x.reached(0), 1);
        for (int member : NO_MEMBERS) {
            CHECK.fails("reached(" + member + ")", IndexOutOfBoundsException.class, () -> x.reached(member));
        }
    }

    private static void promise07Stand() {
        LockQuorum x = new LockQuorum();
        CHECK.is("stand(1)", x.stand(1), 5);
        CHECK.is("stand(1) again: a new term", x.stand(1), 5);
        CHECK.is("its term", x.termOf(1), 2);
        CHECK.is("the term of a voter", x.termOf(4), 2);
        x.setDown(1, true);
        CHECK.fails("stand(1) down", IllegalStateException.class, () -> x.stand(1));
        CHECK.is("its term after a wrong stand", x.termOf(1), 2);
        for (int member : NO_MEMBERS) {
            CHECK.fails("stand(" + member + ")", IndexOutOfBoundsException.class, () -> x.stand(member));
        }
        CHECK.is("stand(0) with four up", x.stand(0), 4);
        x.setDown(2, true);
        CHECK.is("stand(0) with three up", x.stand(0), 3);
        CHECK.is("isLeader(0) with three votes", x.isLeader(0), true);
        x.setDown(3, true);
        CHECK.is("stand(0) with two up", x.stand(0), 2);
        CHECK.is("isLeader(0) with two votes", x.isLeader(0), false);
    }

    private static void promise07Votes() {
        LockQuorum x = new LockQuorum();
        cutOff(x, 0, true);
        x.stand(0);
        x.stand(0);
        x.stand(0);
        CHECK.is("the term of one that is cut off", x.termOf(0), 3);
        cutOff(x, 0, false);
        CHECK.is("stand(1): 0 is ahead", x.stand(1), 4);
        CHECK.is("the greater term stays", x.termOf(0), 3);
        x.addClient();
        CHECK.is("a greater term is reached", x.request(0, 0, 1), 't');
        CHECK.is("stand(1) of term 4", x.stand(1), 5);
        x.setDown(0, true);
        x.request(0, 0, 1);
        x.setDown(0, false);
        CHECK.is("stand(0), which knows less, but they take its term", x.stand(0), 1);
        CHECK.is("term of 3, which gave no vote", x.termOf(3), 5);
        CHECK.is("no leader of term 5", x.isLeader(0), false);
        CHECK.is("stand(2), which knows as much or more", x.stand(2), 5);
        CHECK.is("equal terms give no vote", new LockQuorum().stand(4), 5);
    }

    private static void promise08TermOf() {
        LockQuorum x = new LockQuorum();
        x.setDown(4, true);
        x.setCut(0, 3, true);
        x.stand(0);
        CHECK.is("termOf(0)", x.termOf(0), 1);
        CHECK.is("termOf(1)", x.termOf(1), 1);
        CHECK.is("termOf(3), cut", x.termOf(3), 0);
        CHECK.is("termOf(4), down", x.termOf(4), 0);
        for (int member : NO_MEMBERS) {
            CHECK.fails("termOf(" + member + ")", IndexOutOfBoundsException.class, () -> x.termOf(member));
        }
    }

    private static void promise09IsLeader() {
        LockQuorum x = new LockQuorum();
        cutOff(x, 3, true);
        x.stand(3);
        CHECK.is("isLeader(3) with one vote", x.isLeader(3), false);
        cutOff(x, 3, false);
        x.stand(3);
        CHECK.is("isLeader(3)", x.isLeader(3), true);
        CHECK.is("isLeader(2)", x.isLeader(2), false);
        x.setDown(3, true);
        CHECK.is("isLeader(3) down", x.isLeader(3), true);
        x.stand(2);
        CHECK.is("isLeader(3) of an older term", x.isLeader(3), true);
        CHECK.is("isLeader(2) of the newer term", x.isLeader(2), true);
        x.setDown(3, false);
        x.stand(2);
        CHECK.is("isLeader(3) after a newer term reached it", x.isLeader(3), false);
        for (int member : NO_MEMBERS) {
            CHECK.fails("isLeader(" + member + ")", IndexOutOfBoundsException.class, () -> x.isLeader(member));
        }
    }

    private static void promise10LeaderOf() {
        LockQuorum x = new LockQuorum();
        x.stand(4);
        cutOff(x, 2, true);
        x.stand(2);
        x.stand(2);
        cutOff(x, 2, false);
        x.stand(2);
        CHECK.is("leaderOf(1)", x.leaderOf(1), 4);
        CHECK.is("leaderOf(4)", x.leaderOf(4), 2);
        for (int term : new int[] {0, 2, 3, 5, -1, 512, 513, 514, Integer.MAX_VALUE, Integer.MIN_VALUE}) {
            CHECK.fails("leaderOf(" + term + ")", NoSuchElementException.class, () -> x.leaderOf(term));
        }
        LockQuorum y = new LockQuorum();
        for (int i = 0; i < 510; i++) {
            y.stand(i % 5);
        }
        y.stand(3);
        CHECK.is("leaderOf(511), after 511 stands", y.leaderOf(511), 3);
        CHECK.is("leaderOf(510)", y.leaderOf(510), 4);
        CHECK.is("isLeader of the last term", y.isLeader(3), true);
        for (int i = 0; i < 600; i++) {
            y.stand(2);
            y.isLeader(2);
        }
    }

    private static void promise11Known() {
        LockQuorum x = new LockQuorum();
        x.stand(0);
        x.addClient();
        x.setDown(4, true);
        x.request(0, 0, 0);
        x.setDown(3, true);
        x.request(0, 1, 0);
        CHECK.is("known(0)", x.known(0), 2);
        CHECK.is("known(2)", x.known(2), 2);
        CHECK.is("known(3)", x.known(3), 1);
        CHECK.is("known(4)", x.known(4), 0);
        x.setDown(3, false);
        x.setDown(4, false);
        CHECK.is("answer without an entry", x.request(0, 1, 0), 'h');
        CHECK.is("known(4) without an entry", x.known(4), 0);
        x.read(0, 0, 0);
        CHECK.is("known(3) after a read", x.known(3), 1);
        x.renew(0, 1, 0);
        CHECK.is("known(4): all entries at once", x.known(4), 3);
        for (int member : NO_MEMBERS) {
            CHECK.fails("known(" + member + ")", IndexOutOfBoundsException.class, () -> x.known(member));
        }
    }

    private static void promise12OwnerKnown() {
        LockQuorum x = new LockQuorum();
        x.stand(0);
        x.addClient();
        x.addClient();
        CHECK.fails("ownerKnown of none", NoSuchElementException.class, () -> x.ownerKnown(0, 0));
        x.request(0, 0, 0);
        x.setDown(3, true);
        x.renew(0, 0, 0);
        x.write(0, 0, 0, 5);
        x.request(1, 2, 0);
        x.release(0, 0, 0);
        CHECK.is("ownerKnown(3, 0), which missed the release", x.ownerKnown(3, 0), 0);
        CHECK.fails("ownerKnown(3, 2), which missed it", NoSuchElementException.class, () -> x.ownerKnown(3, 2));
        CHECK.fails("ownerKnown(0, 0) after the release", NoSuchElementException.class, () -> x.ownerKnown(0, 0));
        CHECK.is("ownerKnown(4, 2)", x.ownerKnown(4, 2), 1);
        x.pass(60);
        CHECK.is("ownerKnown(4, 2) after the end", x.ownerKnown(4, 2), 1);
        x.request(0, 2, 0);
        CHECK.is("ownerKnown(4, 2) of the next", x.ownerKnown(4, 2), 0);
        LockQuorum y = new LockQuorum();
        y.stand(0);
        y.addClient();
        y.setDown(4, true);
        y.request(0, 0, 0);
        CHECK.fails("ownerKnown(4, 0), which missed the first entry", NoSuchElementException.class,
                () -> y.ownerKnown(4, 0));
        y.setDown(4, false);
        y.renew(0, 0, 0);
        y.setDown(4, true);
        y.release(0, 0, 0);
        CHECK.is("ownerKnown(4, 0), which missed the last entry", y.ownerKnown(4, 0), 0);
        for (int none : NO_MEMBERS) {
            CHECK.fails("ownerKnown(none, 0)", IndexOutOfBoundsException.class, () -> x.ownerKnown(none, 0));
        }
        for (int none : NO_LOCKS) {
            CHECK.fails("ownerKnown(0, none)", IndexOutOfBoundsException.class, () -> x.ownerKnown(0, none));
        }
    }

    /** Answers 't' and 'n' are the same for all that is asked. */
    private static void refusalsOfLeaders() {
        for (int what = 0; what < 6; what++) {
            LockQuorum x = new LockQuorum();
            x.stand(0);
            x.addClient();
            x.setDown(3, true);
            x.setDown(4, true);
            x.setCut(0, 1, true);
            CHECK.is("two are reached", ask(x, what, 0), 'n');
            CHECK.is("it stays the leader", x.isLeader(0), true);
            CHECK.is("nobody waits", x.waiting(0), 0);
            x.setCut(0, 1, false);
            CHECK.is("three are reached", ask(x, what, 0) != 'n', true);

            LockQuorum y = new LockQuorum();
            y.stand(0);
            y.addClient();
            cutOff(y, 3, true);
            cutOff(y, 4, true);
            y.stand(3);
            y.stand(4);
            y.stand(4);
            y.setCut(0, 3, false);
            y.setCut(0, 4, false);
            y.setDown(1, true);
            y.setDown(2, true);
            y.setCut(0, 3, true);
            CHECK.is("'t' goes before 'n'", ask(y, what, 0), 't');
            CHECK.is("the leader takes the greatest term", y.termOf(0), 3);
            CHECK.is("the others keep theirs", y.termOf(1), 1);
            CHECK.is("it leads no more", y.isLeader(0), false);
            int again = what;
            CHECK.fails("asking it again", IllegalStateException.class, () -> ask(y, again, 0));
            CHECK.is("no entries", y.entries(), 0);
        }
    }

    private static void termsTakenWhenAsking() {
        LockQuorum x = new LockQuorum();
        x.addClient();
        x.setDown(4, true);
        x.stand(0);
        x.setDown(4, false);
        CHECK.is("an answer without an entry", x.release(0, 0, 0), 'o');
        CHECK.is("termOf(4) after an answer without an entry", x.termOf(4), 1);
        x.setDown(3, true);
        x.stand(0);
        x.setDown(3, false);
        CHECK.is("an answer with an entry", x.request(0, 0, 0), 'g');
        CHECK.is("termOf(3) after an entry", x.termOf(3), 2);
        x.setDown(2, true);
        x.stand(0);
        x.setDown(1, true);
        x.setDown(3, true);
        x.setDown(4, true);
        x.setDown(2, false);
        CHECK.is("too few", x.read(0, 0, 0), 'n');
        CHECK.is("termOf(2) after too few", x.termOf(2), 2);
        for (int away = 0; away < 5; away++) {
            int leader = (away + 1) % 5;
            LockQuorum y = new LockQuorum();
            y.addClient();
            y.setDown(away, true);
            y.stand(leader);
            y.setDown(away, false);
            CHECK.is("a read", y.read(0, 0, leader), 'g');
            CHECK.is("termOf each member after a read", y.termOf(away), 1);
        }
    }

    private static char ask(LockQuorum x, int what, int member) {
        switch (what) {
            case 0: return x.request(0, 0, member);
            case 1: return x.steal(0, 0, member);
            case 2: return x.renew(0, 0, member);
            case 3: return x.release(0, 0, member);
            case 4: return x.read(0, 0, member);
            default: return x.write(0, 0, member, 1);
        }
    }

    private static void cutOff(LockQuorum x, int member, boolean isCut) {
        for (int other = 0; other < 5; other++) {
            if (other != member) {
                x.setCut(member, other, isCut);
            }
        }
    }
}
