import java.util.ArrayList;
import java.util.LinkedHashMap;
import java.util.List;
import java.util.Map;
import java.util.NoSuchElementException;
import java.util.function.Function;

/** "Terms" of the document, sentence by sentence: time, members, votes, clients, asking, the log and exceptions. */
final class TermsEdges {
    private final Sentences s;

    TermsEdges(Sentences s) {
        this.s = s;
    }

    void run() {
        s.terms();
        s.runs(this::otherCallsLook);
        s.runs(this::oneClaimsAtATime);
        s.runs(this::nobodyKeepsAnOldValue);
        s.runs(this::timeIsCountedFromZero);
        s.runs(this::membersAreUpAtFirst);
        s.runs(this::membersKnowNothingAtFirst);
        s.runs(this::membersAreLinkedUnlessCut);
        s.runs(this::membersReach);
        s.runs(this::standingRaisesTheTerm);
        s.runs(this::votersHaveALesserTerm);
        s.runs(this::votersKnowNoMore);
        s.runs(this::threeVotesMakeALeader);
        s.runs(this::leadersStayInTheirTerm);
        s.runs(this::clientsAreSixAtMost);
        s.runs(this::clientsAreAwakeAtFirst);
        s.runs(this::clocksHaveOffsets);
        s.runs(this::onlyTheAwakeAskAndOnlyLeadersAreAsked);
        s.runs(this::leadersLookAtWhomTheyReach);
        s.runs(this::greaterTermsAreTaken);
        s.runs(this::greaterTermsOfAnyMemberAreTaken);
        s.runs(this::threeAreNeeded);
        s.runs(this::whatIsAskedIsDone);
        s.runs(this::entriesAreKnownByTheReached);
        s.runs(this::termsAreTakenWithoutAnEntry);
        s.runs(this::termsAreTakenByAnyMember);
        s.runs(this::onlyGrantsMakeEntries);
        s.runs(this::entriesAre250AtMost);
        s.runs(this::refusedCallsChangeNothing);
        s.runs(this::theFirstListedExceptionIsThrown);
    }

    private static LockQuorum rich() {
        LockQuorum x = Keepers.withClients(4);
        x.setOffset(3, -2);
        x.request(0, 0, 0);
        x.write(0, 0, 0, 7);
        x.read(3, 0, 0);
        x.setDown(4, true);
        x.setCut(0, 3, true);
        x.request(1, 0, 0);
        x.steal(2, 0, 0);
        x.request(1, 1, 0);
        x.pass(5);
        return x;
    }

    private static Map<String, Function<LockQuorum, Object>> looks() {
        Map<String, Function<LockQuorum, Object>> looks = new LinkedHashMap<>();
        looks.put("time", LockQuorum::time);
        looks.put("reached", x -> x.reached(0));
        looks.put("termOf", x -> x.termOf(3));
        looks.put("isLeader", x -> x.isLeader(0));
        looks.put("leaderOf", x -> x.leaderOf(1));
        looks.put("known", x -> x.known(4));
        looks.put("ownerKnown", x -> x.ownerKnown(4, 0));
        looks.put("clockOf", x -> x.clockOf(3));
        looks.put("owner", x -> x.owner(0));
        looks.put("ownerByLog", x -> x.ownerByLog(0));
        looks.put("endOf", x -> x.endOf(0));
        looks.put("thief", x -> x.thief(0));
        looks.put("waiting", x -> x.waiting(0));
        looks.put("waitingAt", x -> x.waitingAt(0, 1));
        looks.put("claims", x -> x.claims(0, 0));
        looks.put("claimants", x -> x.claimants(0));
        looks.put("value", x -> x.value(0));
        looks.put("valueByLog", x -> x.valueByLog(0));
        looks.put("kept", x -> x.kept(3, 0));
        looks.put("entries", LockQuorum::entries);
        looks.put("kindOf", x -> x.kindOf(2));
        looks.put("termOfEntry", x -> x.termOfEntry(2));
        looks.put("knownBy", x -> x.knownBy(2));
        looks.put("leased", LockQuorum::leased);
        looks.put("upShare", LockQuorum::upShare);
        looks.put("meanKnown", LockQuorum::meanKnown);
        looks.put("isOneOrder", LockQuorum::isOneOrder);
        return looks;
    }

    private void otherCallsLook() {
        s.says("Its calls are ticks, faults, votes");
        List<Object> due = List.of(5, 3, 1, true, 0, 2, 0, 3, 0, 0, 12, 2, 2, 1, true, 1, 7, 7, 7, 3, 'l', 1, 3, 24L,
                0.8f, 13.0 / 15.0, true);
        LockQuorum x = rich();
        s.is("the number of looks", looks().size(), due.size());
        for (int round = 0; round < 2; round++) {
            int place = 0;
            for (Map.Entry<String, Function<LockQuorum, Object>> look : looks().entrySet()) {
                s.looks(x, look.getKey(), due.get(place), look.getValue());
                place++;
            }
        }
        x.pass(7);
        for (String name : List.of("owner", "ownerByLog", "endOf")) {
            s.refuses(x, name + " at the end", NoSuchElementException.class, looks().get(name));
        }
        s.refuses(x, "kept, too late", IllegalStateException.class, looks().get("kept"));
        s.looks(x, "claims, too late", false, looks().get("claims"));
        s.looks(x, "ownerKnown behind the end", 0, looks().get("ownerKnown"));
    }

    /** The clock of the first owner goes from any offset to any other; the next one asks at each tick. */
    private void oneClaimsAtATime() {
        s.says("No two clients that are awake");
        for (int noted = -2; noted <= 2; noted++) {
            for (int later = -2; later <= 2; later++) {
                LockQuorum x = Keepers.withClients(2);
                x.setOffset(0, noted);
                x.request(0, 0, 0);
                x.setOffset(0, later);
                for (int tick = 0; tick < 14; tick++) {
                    boolean due = tick + later - noted < 8;
                    s.is("claims, " + noted + " to " + later + ", tick " + tick, x.claims(0, 0), due);
                    s.is("the next at tick " + tick, x.request(1, 0, 0), tick < 12 ? 'w' : tick == 12 ? 'g' : 'h');
                    s.is("claimants", x.claimants(0), tick < 12 ? due ? 1 : 0 : 1);
                    s.is("isOneOrder", x.isOneOrder(), true);
                    x.pass(1);
                }
            }
        }
    }

    /** The clock of a reader goes from any offset to any other; the owner writes as soon as it may. */
    private void nobodyKeepsAnOldValue() {
        s.says("No two clients that are awake");
        for (int noted = -2; noted <= 2; noted++) {
            for (int later = -2; later <= 2; later++) {
                LockQuorum x = Keepers.withClients(2);
                x.setOffset(1, noted);
                x.read(1, 0, 0);
                x.setOffset(1, later);
                x.request(0, 0, 0);
                for (int tick = 0; tick < 12; tick++) {
                    x.setPaused(1, false);
                    if (tick + later - noted < 6) {
                        s.is("kept at tick " + tick, x.kept(1, 0), x.value(0));
                    } else {
                        s.refuses(x, "kept at tick " + tick, IllegalStateException.class, y -> y.kept(1, 0));
                    }
                    x.setPaused(1, true);
                    x.renew(0, 0, 0);
                    s.is("write at tick " + tick, x.write(0, 0, 0, 9), tick < 10 ? 'b' : 'g');
                    x.pass(1);
                }
            }
        }
        LockQuorum x = Keepers.withClients(2);
        x.read(1, 0, 0);
        x.request(0, 0, 0);
        s.is("a reader that is awake is called back", x.write(0, 0, 0, 9), 'g');
        s.refuses(x, "it keeps nothing old", IllegalStateException.class, y -> y.kept(1, 0));
    }

    private void timeIsCountedFromZero() {
        s.says("Time is counted in ticks from 0.");
        LockQuorum x = new LockQuorum();
        s.looks(x, "time at first", 0, LockQuorum::time);
        x.pass(1);
        s.looks(x, "time after a tick", 1, LockQuorum::time);
    }

    private void membersAreUpAtFirst() {
        s.says("There are the members 0 to 4");
        LockQuorum x = new LockQuorum();
        s.is("all are up", x.upShare(), 1.0f);
        for (int member = 0; member < 5; member++) {
            s.is("setDown of a new member", x.setDown(member, false), false);
        }
        for (int none : Keepers.NO_MEMBERS) {
            s.refuses(x, "member " + none, IndexOutOfBoundsException.class, y -> y.reached(none));
        }
    }

    private void membersKnowNothingAtFirst() {
        s.says("A member has a term, 0 at first");
        LockQuorum x = new LockQuorum();
        for (int member = 0; member < 5; member++) {
            s.is("termOf a new member", x.termOf(member), 0);
            s.is("known of a new member", x.known(member), 0);
        }
        x.addClient();
        x.stand(0);
        x.request(0, 0, 0);
        x.setDown(4, true);
        x.request(0, 1, 0);
        s.is("the first entries", x.known(4), 1);
        s.is("it knows the first", x.ownerKnown(4, 0), 0);
        s.refuses(x, "and not the second", NoSuchElementException.class, y -> y.ownerKnown(4, 1));
    }

    private void membersAreLinkedUnlessCut() {
        s.says("Two members are linked, unless");
        for (int member = 0; member < 5; member++) {
            for (int other = 0; other < 5; other++) {
                if (other != member) {
                    LockQuorum x = new LockQuorum();
                    s.is("cut at first", x.setCut(member, other, true), false);
                    for (int each = 0; each < 5; each++) {
                        s.is("reached, cut", x.reached(each), each == member || each == other ? 4 : 5);
                    }
                    s.is("the same link", x.setCut(other, member, false), true);
                    s.is("reached, mended", x.reached(member) + x.reached(other), 10);
                }
            }
        }
    }

    private void membersReach() {
        s.says("A member that is up reaches itself");
        LockQuorum x = new LockQuorum();
        Keepers.cutOff(x, 0, true);
        s.is("itself alone, all links cut", x.reached(0), 1);
        x.setCut(0, 1, false);
        s.is("not by way of another", x.reached(0), 2);
        x.setDown(0, true);
        s.is("one that is down reaches none", x.reached(0), 0);
        LockQuorum y = new LockQuorum();
        for (int member = 1; member < 5; member++) {
            y.setDown(member, true);
            s.is("those that are up", y.reached(0), 5 - member);
            s.is("a member that is down", y.reached(member), 0);
        }
    }

    private void standingRaisesTheTerm() {
        s.says("When a member stands for leader");
        LockQuorum x = new LockQuorum();
        Keepers.cutOff(x, 4, true);
        for (int term = 1; term < 4; term++) {
            s.is("the vote for itself", x.stand(4), 1);
            s.is("the term", x.termOf(4), term);
        }
        s.is("terms of others", x.termOf(0) + x.termOf(3), 0);
        Keepers.cutOff(x, 4, false);
        s.is("one that has voted stands", x.stand(0), 4);
        s.is("its own term is raised, not the greatest", x.termOf(0), 1);
    }

    /** Member 0 stands for term 2, and member 1 has a term from 0 to 4. */
    private void votersHaveALesserTerm() {
        s.says("Then each other member that it reaches");
        for (int term = 0; term < 5; term++) {
            LockQuorum x = new LockQuorum();
            Keepers.raiseTerm(x, 0, 1);
            Keepers.raiseTerm(x, 1, term);
            s.is("votes with a voter of term " + term, x.stand(0), term < 2 ? 5 : 4);
            s.is("the voter's term", x.termOf(1), Math.max(term, 2));
        }
        LockQuorum x = new LockQuorum();
        x.setDown(1, true);
        x.setCut(0, 2, true);
        s.is("votes of those that are reached", x.stand(0), 3);
        s.is("the terms of the others", x.termOf(1) + x.termOf(2), 0);
    }

    private void votersKnowNoMore() {
        s.says("Then each other member that it reaches");
        LockQuorum x = Keepers.withClients(1);
        x.request(0, 0, 0);
        s.is("votes of those that know as much", x.stand(1), 5);
        x.setDown(0, true);
        x.setDown(4, true);
        x.renew(0, 0, 1);
        x.setDown(0, false);
        x.setDown(4, false);
        s.is("votes of one that knows as much and of three that know one more", x.stand(0), 2);
        s.is("their terms all the same", x.termOf(1) + x.termOf(2) + x.termOf(3) + x.termOf(4), 12);
        s.is("votes of two that know one less, and of others", x.stand(2), 5);
    }

    private void threeVotesMakeALeader() {
        s.says("With 3 votes or more");
        for (int up = 5; up > 0; up--) {
            LockQuorum x = new LockQuorum();
            for (int member = up; member < 5; member++) {
                x.setDown(member, true);
            }
            s.is("votes", x.stand(0), up);
            s.is("isLeader with " + up + " votes", x.isLeader(0), up >= 3);
            if (up >= 3) {
                s.is("leaderOf(1)", x.leaderOf(1), 0);
            } else {
                s.refuses(x, "leaderOf(1)", NoSuchElementException.class, y -> y.leaderOf(1));
            }
        }
    }

    private void leadersStayInTheirTerm() {
        s.says("A member is a leader as long as");
        LockQuorum x = new LockQuorum();
        x.stand(0);
        Keepers.cutOff(x, 0, true);
        x.stand(1);
        s.is("a leader that has not heard of the next", x.isLeader(0), true);
        s.is("the next leader", x.isLeader(1), true);
        s.is("a member of the leader's term", x.isLeader(2), false);
        x.stand(0);
        s.is("a leader that stands, and gets one vote", x.isLeader(0), false);
        s.is("leaderOf its term stays", x.leaderOf(1), 0);
        s.is("it has the term of the other leader", x.termOf(0), x.termOf(1));
        Keepers.cutOff(x, 0, false);
        x.stand(2);
        s.is("a leader that takes another's term", x.isLeader(1), false);
        x.stand(2);
        s.is("a leader that becomes it again", x.isLeader(2), true);
    }

    private void clientsAreSixAtMost() {
        s.says("At most 6 clients have the numbers");
        LockQuorum x = new LockQuorum();
        for (int client = 0; client < 6; client++) {
            int next = client;
            s.refuses(x, "not yet a client", NoSuchElementException.class, y -> y.clockOf(next));
            s.is("addClient", x.addClient(), client);
            s.is("now a client", x.clockOf(client), 0);
        }
        s.refuses(x, "a seventh client", IllegalStateException.class, LockQuorum::addClient);
        s.refuses(x, "client 6", NoSuchElementException.class, y -> y.clockOf(6));
    }

    private void clientsAreAwakeAtFirst() {
        s.says("A client is awake, as at first");
        LockQuorum x = Keepers.withClients(6);
        for (int client = 0; client < 6; client++) {
            s.is("a new client asks", x.request(client, 0, 0) == (client == 0 ? 'g' : 'w'), true);
            s.is("a new client was not paused", x.setPaused(client, true), false);
        }
    }

    private void clocksHaveOffsets() {
        s.says("Its clock is the time plus its offset");
        LockQuorum x = Keepers.withClients(1);
        s.is("at first", x.clockOf(0), 0);
        for (int offset = -2; offset <= 2; offset++) {
            x.setOffset(0, offset);
            s.is("clockOf with offset " + offset, x.clockOf(0), x.time() + offset);
            x.pass(60);
            s.is("clockOf later", x.clockOf(0), x.time() + offset);
        }
        for (int offset : new int[] {-3, 3}) {
            s.refuses(x, "offset " + offset, IllegalArgumentException.class, y -> y.setOffset(0, offset));
        }
    }

    private void onlyTheAwakeAskAndOnlyLeadersAreAsked() {
        s.says("A client that is awake can ask");
        for (int question = 0; question < 6; question++) {
            int asked = question;
            Function<LockQuorum, Object> call = y -> Keepers.ask(y, asked, 0, 0, 0);
            LockQuorum x = Keepers.withClients(1);
            x.setPaused(0, true);
            s.refuses(x, "a paused client", IllegalStateException.class, call);
            x.setPaused(0, false);
            x.setDown(0, true);
            s.refuses(x, "a leader that is down", IllegalStateException.class, call);
            x.setDown(0, false);
            s.refuses(x, "no leader", IllegalStateException.class, y -> Keepers.ask(y, asked, 0, 0, 1));
            char due = "ggoogo".charAt(asked);
            s.is("one that is awake, and a leader that is up", call.apply(x), due);
        }
    }

    private void leadersLookAtWhomTheyReach() {
        s.says("This member first looks at all members");
        for (int question = 0; question < 6; question++) {
            for (int ahead = 1; ahead < 5; ahead++) {
                LockQuorum x = Keepers.withClients(1);
                Keepers.cutOff(x, ahead, true);
                x.stand(ahead);
                char due = "ggoogo".charAt(question);
                s.is("a greater term that is not reached", Keepers.ask(x, question, 0, 0, 0), due);
                x.setDown(ahead, true);
                Keepers.cutOff(x, ahead, false);
                s.is("a greater term that is down", Keepers.ask(x, question, 0, 1, 0), due);
                x.setDown(ahead, false);
                s.is("a greater term that is reached", Keepers.ask(x, question, 0, 2, 0), 't');
            }
        }
    }

    private void greaterTermsAreTaken() {
        s.says("If the term of one is greater");
        for (int first = 0; first < 4; first++) {
            for (int second = 0; second < 4; second++) {
                LockQuorum x = Keepers.withClients(1);
                Keepers.raiseTerm(x, 1, first);
                Keepers.raiseTerm(x, 4, second);
                int greatest = Math.max(first, second) + 1;
                s.is("request", x.request(0, 0, 0), greatest > 1 ? 't' : 'g');
                s.is("the leader's term", x.termOf(0), greatest);
                s.is("the others' terms", x.termOf(1) * 10 + x.termOf(4), (first + 1) * 10 + second + 1);
                s.is("it leads", x.isLeader(0), greatest == 1);
                s.is("entries", x.entries(), greatest == 1 ? 1 : 0);
            }
        }
    }

    /** Any of the five leads, and any other one is ahead. */
    private void greaterTermsOfAnyMemberAreTaken() {
        s.says("If the term of one is greater");
        for (int leader = 0; leader < 5; leader++) {
            for (int away = 1; away < 5; away++) {
                LockQuorum x = new LockQuorum();
                x.addClient();
                x.stand(leader);
                int ahead = (leader + away) % 5;
                Keepers.raiseTerm(x, ahead, 1);
                s.is("read", x.read(0, 0, leader), 't');
                s.is("the leader's term", x.termOf(leader), 2);
                s.is("the others keep theirs", x.termOf((leader + away % 4 + 1) % 5), 1);
            }
        }
    }

    private void threeAreNeeded() {
        s.says("Otherwise, if these are fewer than 3");
        for (int question = 0; question < 6; question++) {
            LockQuorum x = Keepers.withClients(1);
            for (int up = 4; up > 0; up--) {
                x.setDown(up, true);
                char due = up < 3 ? 'n' : "ggoogo".charAt(question);
                s.is("three, itself included, or fewer: " + up, Keepers.ask(x, question, 0, 4 - up, 0), due);
            }
            s.is("nobody waits by 'n'", x.waiting(2) + x.waiting(3), 0);
            s.is("it still leads", x.isLeader(0), true);
        }
        LockQuorum x = Keepers.withClients(1);
        Keepers.raiseTerm(x, 1, 1);
        x.setDown(2, true);
        x.setDown(3, true);
        x.setDown(4, true);
        s.is("'t' goes before 'n'", x.request(0, 0, 0), 't');
        LockQuorum y = Keepers.withClients(1);
        y.setDown(1, true);
        y.stand(0);
        for (int member = 2; member < 5; member++) {
            y.setDown(member, true);
        }
        y.setDown(1, false);
        s.is("two members", y.request(0, 0, 0), 'n');
        s.is("'n' gives no term", y.termOf(1), 1);
    }

    private void whatIsAskedIsDone() {
        s.says("Otherwise, it does what is asked");
        LockQuorum x = Keepers.withClients(2);
        x.setDown(3, true);
        x.setCut(0, 4, true);
        s.is("three are reached", x.reached(0), 3);
        s.is("request", x.request(0, 0, 0), 'g');
        s.is("renew", x.renew(0, 0, 0), 'g');
        s.is("read", x.read(0, 0, 0), 'g');
        s.is("write", x.write(0, 0, 0, 5), 'g');
        s.is("steal", x.steal(1, 0, 0), 'm');
        s.is("release", x.release(0, 0, 0), 'g');
    }

    private void entriesAreKnownByTheReached() {
        s.says("If this makes an entry, the entry has the leader's term");
        LockQuorum x = Keepers.withClients(1);
        x.stand(2);
        x.setDown(4, true);
        x.setDown(3, true);
        x.request(0, 0, 2);
        x.renew(0, 0, 2);
        s.is("the entries' terms", x.termOfEntry(0) * 10 + x.termOfEntry(1), 22);
        s.is("the leader and two others", x.known(2) + x.known(0) + x.known(1), 6);
        s.is("one that is down", x.known(3), 0);
        x.stand(2);
        x.setDown(3, false);
        x.setCut(2, 4, true);
        x.setDown(4, false);
        s.is("an entry again", x.write(0, 0, 2, 1), 'g');
        s.is("the entry's term", x.termOfEntry(2), 3);
        s.is("the older entry's term stays", x.termOfEntry(1), 2);
        s.is("all entries, also those that it missed", x.known(3), 3);
        s.is("the leader's term", x.termOf(3), 3);
        s.is("one that is not reached knows none", x.known(4), 0);
        s.is("nor the term", x.termOf(4), 2);
    }

    /** The seven answers that make no entry: member 3 has missed the stand and the entries, and is reached again. */
    private void termsAreTakenWithoutAnEntry() {
        s.says("If this makes an entry, the entry has the leader's term");
        for (int answer = 0; answer < 7; answer++) {
            LockQuorum x = new LockQuorum();
            for (int client = 0; client < 4; client++) {
                x.addClient();
            }
            x.setDown(3, true);
            x.stand(0);
            x.request(0, 0, 0);
            s.is("the pause of a reader", x.read(2, 0, 0) == 'g' && !x.setPaused(2, true), true);
            x.steal(3, 0, 0);
            x.setDown(3, false);
            s.is("an answer", withoutEntry(x, answer), "hwmosbg".charAt(answer));
            s.is("the term that is taken", x.termOf(3), 1);
            s.is("no entry is learned", x.known(3), 0);
            s.is("no entry is made", x.entries(), 1);
        }
    }

    /** Any of the five leads, and any other one has missed the stand. */
    private void termsAreTakenByAnyMember() {
        s.says("If this makes an entry, the entry has the leader's term");
        for (int leader = 0; leader < 5; leader++) {
            for (int away = 1; away < 5; away++) {
                int late = (leader + away) % 5;
                LockQuorum x = new LockQuorum();
                x.addClient();
                x.setDown(late, true);
                x.stand(leader);
                x.setDown(late, false);
                s.is("read", x.read(0, 0, leader), 'g');
                s.is("the term that is taken", x.termOf(late), 1);
                x.setDown(late, true);
                x.stand(leader);
                x.setDown(late, false);
                s.is("request", x.request(0, 0, leader), 'g');
                s.is("the term that is taken with an entry", x.termOf(late), 2);
                s.is("the entry", x.known(late), 1);
            }
        }
    }

    private static char withoutEntry(LockQuorum x, int answer) {
        switch (answer) {
            case 0: return x.request(0, 0, 0);
            case 1: return x.request(1, 0, 0);
            case 2: return x.steal(1, 0, 0);
            case 3: return x.release(1, 0, 0);
            case 4: return x.renew(0, 0, 0);
            case 5: return x.write(0, 0, 0, 1);
            default: return x.read(1, 0, 0);
        }
    }

    private void onlyGrantsMakeEntries() {
        s.says("An answer other than 'g' makes no entry.");
        LockQuorum x = Keepers.withClients(4);
        x.request(0, 0, 0);
        x.read(2, 0, 0);
        x.setPaused(2, true);
        x.steal(3, 0, 0);
        for (int answer = 0; answer < 6; answer++) {
            s.is("an answer", withoutEntry(x, answer), "hwmosb".charAt(answer));
            s.is("entries", x.entries(), 1);
        }
        x.setDown(1, true);
        x.setDown(2, true);
        x.setDown(3, true);
        s.is("too few", x.renew(0, 0, 0), 'n');
        s.is("entries after 'n'", x.entries(), 1);
        x.setDown(1, false);
        Keepers.raiseTerm(x, 1, 1);
        s.is("a greater term", x.release(0, 0, 0), 't');
        s.is("entries after 't'", x.entries(), 1);
    }

    private void entriesAre250AtMost() {
        s.says("At most 250 entries are made.");
        LockQuorum x = Keepers.withEntries(2, 249);
        s.is("entries", x.entries(), 249);
        s.is("an answer without an entry", x.request(1, 0, 0), 'w');
        s.is("a read", x.read(1, 0, 0), 'g');
        s.is("the last entry", x.release(0, 0, 0), 'g');
        s.is("entries, all", x.entries(), 250);
        for (int question = 0; question < 6; question++) {
            int asked = question;
            for (int client = 0; client < 2; client++) {
                int asking = client;
                s.refuses(x, "a full log", IllegalStateException.class, y -> Keepers.ask(y, asked, asking, 0, 0));
            }
        }
        s.is("a vote all the same", x.stand(1), 5);
        s.is("a quit all the same", x.quit(1, 0), 0);
    }

    private void refusedCallsChangeNothing() {
        s.says("A method that throws an exception changes nothing.");
        LockQuorum x = rich();
        x.addClient();
        x.addClient();
        x.setPaused(1, true);
        x.setDown(3, true);
        s.refuses(x, "pass", IllegalArgumentException.class, y -> y.pass(61));
        s.refuses(x, "setDown", IndexOutOfBoundsException.class, y -> y.setDown(5, true));
        s.refuses(x, "setCut", IndexOutOfBoundsException.class, y -> y.setCut(0, 5, true));
        s.refuses(x, "setCut of one", IllegalArgumentException.class, y -> y.setCut(0, 0, true));
        s.refuses(x, "stand", IndexOutOfBoundsException.class, y -> y.stand(5));
        s.refuses(x, "stand of one that is down", IllegalStateException.class, y -> y.stand(3));
        s.refuses(x, "addClient", IllegalStateException.class, LockQuorum::addClient);
        s.refuses(x, "setOffset of no client", NoSuchElementException.class, y -> y.setOffset(6, 1));
        s.refuses(x, "setOffset", IllegalArgumentException.class, y -> y.setOffset(0, 3));
        s.refuses(x, "setPaused", NoSuchElementException.class, y -> y.setPaused(6, true));
        s.refuses(x, "quit of no client", NoSuchElementException.class, y -> y.quit(6, 0));
        s.refuses(x, "quit of no lock", IndexOutOfBoundsException.class, y -> y.quit(1, 4));
        s.refuses(x, "quit", UnsupportedOperationException.class, y -> y.quit(0, 0));
        s.refuses(x, "write of a wrong value", IllegalArgumentException.class, y -> y.write(0, 0, 0, 1000));
        for (int question = 0; question < 6; question++) {
            int asked = question;
            s.refuses(x, "no client", NoSuchElementException.class, y -> Keepers.ask(y, asked, 6, 0, 0));
            s.refuses(x, "no lock", IndexOutOfBoundsException.class, y -> Keepers.ask(y, asked, 0, 4, 0));
            s.refuses(x, "no member", IndexOutOfBoundsException.class, y -> Keepers.ask(y, asked, 0, 0, 5));
            s.refuses(x, "paused", IllegalStateException.class, y -> Keepers.ask(y, asked, 1, 0, 0));
            s.refuses(x, "no leader", IllegalStateException.class, y -> Keepers.ask(y, asked, 0, 0, 1));
        }
    }

    private void theFirstListedExceptionIsThrown() {
        s.says("If several exceptions apply");
        LockQuorum x = Keepers.withClients(1);
        x.setPaused(0, true);
        s.refuses(x, "setCut(5, 5)", IndexOutOfBoundsException.class, y -> y.setCut(5, 5, true));
        s.refuses(x, "setCut(-1, -1)", IndexOutOfBoundsException.class, y -> y.setCut(-1, -1, true));
        s.refuses(x, "setOffset(1, 3)", NoSuchElementException.class, y -> y.setOffset(1, 3));
        s.refuses(x, "ownerKnown(0, 4)", IndexOutOfBoundsException.class, y -> y.ownerKnown(0, 4));
        s.refuses(x, "ownerKnown(5, 0)", IndexOutOfBoundsException.class, y -> y.ownerKnown(5, 0));
        s.refuses(x, "quit(1, 4)", NoSuchElementException.class, y -> y.quit(1, 4));
        s.refuses(x, "quit(0, 4)", IndexOutOfBoundsException.class, y -> y.quit(0, 4));
        s.refuses(x, "waitingAt(4, 0)", IndexOutOfBoundsException.class, y -> y.waitingAt(4, 0));
        s.refuses(x, "waitingAt(4, -1)", IndexOutOfBoundsException.class, y -> y.waitingAt(4, -1));
        s.refuses(x, "claims(1, 4)", NoSuchElementException.class, y -> y.claims(1, 4));
        s.refuses(x, "kept(1, 4)", NoSuchElementException.class, y -> y.kept(1, 4));
        s.refuses(x, "kept(0, 4)", IndexOutOfBoundsException.class, y -> y.kept(0, 4));
        List<int[]> wrong = new ArrayList<>();
        wrong.add(new int[] {1, 4});
        wrong.add(new int[] {-1, -1});
        for (int[] pair : wrong) {
            for (int question = 0; question < 6; question++) {
                int asked = question;
                s.refuses(x, "no client before all else", NoSuchElementException.class,
                        y -> Keepers.ask(y, asked, pair[0], pair[1], pair[1]));
                s.refuses(x, "no lock before a paused client", IndexOutOfBoundsException.class,
                        y -> Keepers.ask(y, asked, 0, pair[1], 0));
                s.refuses(x, "no member before a paused client", IndexOutOfBoundsException.class,
                        y -> Keepers.ask(y, asked, 0, 0, 5));
            }
            s.refuses(x, "write: no client", NoSuchElementException.class, y -> y.write(pair[0], 4, 5, 1000));
            s.refuses(x, "write: no lock", IndexOutOfBoundsException.class, y -> y.write(0, pair[1], 0, 1000));
            s.refuses(x, "write: no member", IndexOutOfBoundsException.class, y -> y.write(0, 0, 5, -1));
            s.refuses(x, "write: value", IllegalArgumentException.class, y -> y.write(0, 0, 0, 1000));
        }
    }
}
