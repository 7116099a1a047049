import java.util.ArrayList;
import java.util.HashMap;
import java.util.HashSet;
import java.util.List;
import java.util.Map;
import java.util.NoSuchElementException;
import java.util.Set;

/**
 * The document once more, as slow as it may be: it keeps the log and the reads and finds owners, claims, values and
 * leases by going through them at each call, so that it shares no shortcut with LockQuorum.
 */
final class Model {
    private record Entry(char kind, int term, int lock, int client, int time, int clock, int value) { }

    private record Read(int lock, int client, int time, int clock, int value, int entriesBefore) { }

    private int time;
    private final boolean[] up = {true, true, true, true, true};
    private final Set<Set<Integer>> cuts = new HashSet<>();
    private final int[] term = new int[5];
    private final int[] known = new int[5];
    private final Map<Integer, Integer> leaders = new HashMap<>();
    private final List<Boolean> awake = new ArrayList<>();
    private final List<Integer> offsets = new ArrayList<>();
    private final List<List<Integer>> queues = List.of(
            new ArrayList<>(), new ArrayList<>(), new ArrayList<>(), new ArrayList<>());
    private final Map<Integer, Integer> thieves = new HashMap<>();
    private final List<Entry> log = new ArrayList<>();
    private final List<Read> reads = new ArrayList<>();

    int pass(int ticks) {
        if (ticks < 1 || ticks > 60) {
            throw new IllegalArgumentException();
        }
        time += ticks;
        return time;
    }

    int time() {
        return time;
    }

    boolean setDown(int member, boolean isDown) {
        needIndex(member, 5);
        boolean wasUp = up[member];
        up[member] = !isDown;
        return !wasUp;
    }

    boolean setCut(int member, int other, boolean isCut) {
        needIndex(member, 5);
        needIndex(other, 5);
        if (member == other) {
            throw new IllegalArgumentException();
        }
        return isCut ? !cuts.add(Set.of(member, other)) : cuts.remove(Set.of(member, other));
    }

    private List<Integer> circle(int member) {
        List<Integer> circle = new ArrayList<>();
        if (up[member]) {
            circle.add(member);
            for (int other = 0; other < 5; other++) {
                if (other != member && up[other] && !cuts.contains(Set.of(member, other))) {
                    circle.add(other);
                }
            }
        }
        return circle;
    }

    int reached(int member) {
        needIndex(member, 5);
        return circle(member).size();
    }

    int stand(int member) {
        needIndex(member, 5);
        needState(up[member]);
        term[member] += 1;
        int votes = 1;
        List<Integer> others = circle(member);
        others.remove(Integer.valueOf(member));
        for (int other : others) {
            if (term[other] < term[member]) {
                term[other] = term[member];
                votes += known[other] > known[member] ? 0 : 1;
            }
        }
        if (votes >= 3) {
            leaders.put(term[member], member);
        }
        return votes;
    }

    int termOf(int member) {
        needIndex(member, 5);
        return term[member];
    }

    boolean isLeader(int member) {
        needIndex(member, 5);
        return leaders.getOrDefault(term[member], -1) == member;
    }

    int leaderOf(int wanted) {
        needElement(leaders.containsKey(wanted));
        return leaders.get(wanted);
    }

    int known(int member) {
        needIndex(member, 5);
        return known[member];
    }

    int ownerKnown(int member, int lock) {
        needIndex(member, 5);
        needIndex(lock, 4);
        Entry last = lastOf(log.subList(0, known[member]), lock, "lru");
        needElement(last != null && last.kind != 'u');
        return last.client;
    }

    int addClient() {
        needState(awake.size() < 6);
        awake.add(true);
        offsets.add(0);
        return awake.size() - 1;
    }

    int setOffset(int client, int offset) {
        needClient(client);
        if (Math.abs((long) offset) > 2) {
            throw new IllegalArgumentException();
        }
        return offsets.set(client, offset);
    }

    boolean setPaused(int client, boolean isPaused) {
        needClient(client);
        return !awake.set(client, !isPaused);
    }

    int clockOf(int client) {
        needClient(client);
        return time + offsets.get(client);
    }

    char request(int client, int lock, int member) {
        return acquire(client, lock, member, 'w');
    }

    char steal(int client, int lock, int member) {
        return acquire(client, lock, member, 'm');
    }

    private char acquire(int client, int lock, int member, char otherwise) {
        needAll(client, lock, member);
        needAsker(client, member);
        char first = look(member);
        if (first != 'g') {
            return first;
        }
        Entry lease = leaseOf(lock);
        if (lease != null && lease.client == client) {
            return 'h';
        }
        List<Integer> queue = queues.get(lock);
        if (lease == null && (queue.isEmpty() || queue.get(0) == client)) {
            queue.remove(Integer.valueOf(client));
            thieves.remove(lock);
            return enter(member, 'l', lock, client, 0);
        }
        if (otherwise == 'm') {
            queue.remove(Integer.valueOf(client));
            queue.add(0, client);
            thieves.put(lock, client);
        } else if (!queue.contains(client)) {
            queue.add(client);
        }
        return otherwise;
    }

    char renew(int client, int lock, int member) {
        needAll(client, lock, member);
        needAsker(client, member);
        char first = look(member);
        if (first != 'g') {
            return first;
        }
        if (!owns(client, lock)) {
            return 'o';
        }
        return thieves.containsKey(lock) ? 's' : enter(member, 'r', lock, client, 0);
    }

    char release(int client, int lock, int member) {
        needAll(client, lock, member);
        needAsker(client, member);
        char first = look(member);
        if (first != 'g') {
            return first;
        }
        return owns(client, lock) ? enter(member, 'u', lock, client, 0) : 'o';
    }

    int quit(int client, int lock) {
        needClient(client);
        needIndex(lock, 4);
        if (!queues.get(lock).remove(Integer.valueOf(client))) {
            throw new UnsupportedOperationException();
        }
        thieves.remove(lock, client);
        return queues.get(lock).size();
    }

    char read(int client, int lock, int member) {
        needAll(client, lock, member);
        needAsker(client, member);
        char first = look(member);
        if (first == 'g') {
            reads.add(new Read(lock, client, time, clockOf(client), value(lock), log.size()));
        }
        return first;
    }

    char write(int client, int lock, int member, int value) {
        needAll(client, lock, member);
        if (value < 0 || value > 999) {
            throw new IllegalArgumentException();
        }
        needAsker(client, member);
        char first = look(member);
        if (first != 'g') {
            return first;
        }
        if (!claims(client, lock) || !owns(client, lock)) {
            return 'o';
        }
        for (Read read : validReads(lock)) {
            if (!awake.get(read.client) && read.time + 10 > time) {
                return 'b';
            }
        }
        return enter(member, 'v', lock, client, value);
    }

    int owner(int lock) {
        needIndex(lock, 4);
        Entry lease = leaseOf(lock);
        needElement(lease != null);
        return lease.client;
    }

    int endOf(int lock) {
        needIndex(lock, 4);
        Entry lease = leaseOf(lock);
        needElement(lease != null);
        return lease.time + 12;
    }

    int thief(int lock) {
        needIndex(lock, 4);
        needElement(thieves.containsKey(lock));
        return thieves.get(lock);
    }

    int waiting(int lock) {
        needIndex(lock, 4);
        return queues.get(lock).size();
    }

    int waitingAt(int lock, int index) {
        needIndex(lock, 4);
        needElement(index >= 0 && index < queues.get(lock).size());
        return queues.get(lock).get(index);
    }

    boolean claims(int client, int lock) {
        needClient(client);
        needIndex(lock, 4);
        Entry last = null;
        for (Entry entry : log) {
            if (entry.lock == lock && entry.client == client && entry.kind != 'v') {
                last = entry;
            }
        }
        return awake.get(client) && last != null && last.kind != 'u' && clockOf(client) - last.clock < 8;
    }

    int claimants(int lock) {
        needIndex(lock, 4);
        int count = 0;
        for (int client = 0; client < awake.size(); client++) {
            count += claims(client, lock) ? 1 : 0;
        }
        return count;
    }

    int value(int lock) {
        needIndex(lock, 4);
        Entry last = lastOf(log, lock, "v");
        return last == null ? 0 : last.value;
    }

    int kept(int client, int lock) {
        needClient(client);
        needIndex(lock, 4);
        Read last = null;
        for (Read read : validReads(lock)) {
            last = read.client == client ? read : last;
        }
        needState(last != null && awake.get(client) && clockOf(client) - last.clock < 6);
        return last.value;
    }

    int entries() {
        return log.size();
    }

    char kindOf(int entry) {
        needElement(entry >= 0 && entry < log.size());
        return log.get(entry).kind;
    }

    int termOfEntry(int entry) {
        needElement(entry >= 0 && entry < log.size());
        return log.get(entry).term;
    }

    int knownBy(int entry) {
        needElement(entry >= 0 && entry < log.size());
        int count = 0;
        for (int knows : known) {
            count += knows > entry ? 1 : 0;
        }
        return count;
    }

    long leased() {
        long sum = 0;
        for (int tick = 0; tick < time + 12; tick++) {
            for (int lock = 0; lock < 4; lock++) {
                sum += isLeasedIn(lock, tick) ? 1 : 0;
            }
        }
        return sum;
    }

    /** A tick is leased if the last entry made in it or before it is a lease that reaches behind it. */
    private boolean isLeasedIn(int lock, int tick) {
        Entry last = null;
        for (Entry entry : log) {
            if (entry.lock == lock && entry.kind != 'v' && entry.time <= tick) {
                last = entry;
            }
        }
        return last != null && last.kind != 'u' && tick < last.time + 12;
    }

    float upShare() {
        int count = 0;
        for (boolean isUp : up) {
            count += isUp ? 1 : 0;
        }
        return count / 5f;
    }

    double meanKnown() {
        if (log.isEmpty()) {
            throw new ArithmeticException();
        }
        int sum = 0;
        for (int knows : known) {
            sum += knows;
        }
        return sum / (5.0 * log.size());
    }

    private char look(int leader) {
        int greatest = 0;
        List<Integer> circle = circle(leader);
        for (int member : circle) {
            greatest = Math.max(greatest, term[member]);
        }
        if (greatest > term[leader]) {
            term[leader] = greatest;
            return 't';
        }
        if (circle.size() < 3) {
            return 'n';
        }
        for (int member : circle) {
            term[member] = term[leader];
        }
        return 'g';
    }

    private char enter(int leader, char kind, int lock, int client, int value) {
        log.add(new Entry(kind, term[leader], lock, client, time, clockOf(client), value));
        for (int member : circle(leader)) {
            known[member] = log.size();
        }
        return 'g';
    }

    private static Entry lastOf(List<Entry> entries, int lock, String kinds) {
        Entry last = null;
        for (Entry entry : entries) {
            if (entry.lock == lock && kinds.indexOf(entry.kind) >= 0) {
                last = entry;
            }
        }
        return last;
    }

    /** The entry that granted or renewed the lease that now stands, or null. */
    private Entry leaseOf(int lock) {
        Entry last = lastOf(log, lock, "lru");
        return last == null || last.kind == 'u' || last.time + 12 <= time ? null : last;
    }

    private boolean owns(int client, int lock) {
        Entry lease = leaseOf(lock);
        return lease != null && lease.client == client;
    }

    private List<Read> validReads(int lock) {
        Entry written = lastOf(log, lock, "v");
        int from = written == null ? 0 : log.lastIndexOf(written) + 1;
        List<Read> valid = new ArrayList<>();
        for (Read read : reads) {
            if (read.lock == lock && read.entriesBefore >= from) {
                valid.add(read);
            }
        }
        return valid;
    }

    private void needAll(int client, int lock, int member) {
        needClient(client);
        needIndex(lock, 4);
        needIndex(member, 5);
    }

    private void needAsker(int client, int member) {
        needState(awake.get(client) && up[member] && isLeader(member) && log.size() < 250);
    }

    private void needClient(int client) {
        needElement(client >= 0 && client < awake.size());
    }

    private static void needElement(boolean isThere) {
        if (!isThere) {
            throw new NoSuchElementException();
        }
    }

    private static void needState(boolean isRight) {
        if (!isRight) {
            throw new IllegalStateException();
        }
    }

    private static void needIndex(int index, int count) {
        if (index < 0 || index >= count) {
            throw new IndexOutOfBoundsException();
        }
    }
}
