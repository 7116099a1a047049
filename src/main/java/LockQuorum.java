import java.util.Arrays;
import java.util.NoSuchElementException;

/**
 * A keeper of locks: five members choose a leader by votes, leases of locks are granted when most
 * members know it, and clients keep values that are called back when they change.
 */
public final class LockQuorum {
    private static final int NONE = -1;
    private static final int MAX_PASS = 60;
    private static final int MAX_OFFSET = 2;
    private static final int MAX_VALUE = 999;
    private static final int LEASE_TICKS = 12;

    private static final char GRANTED = 'g';
    private static final char TERM_PASSED = 't';
    private static final char NO_QUORUM = 'n';
    private static final char HELD = 'h';
    private static final char WAITING = 'w';
    private static final char WAITING_AS_THIEF = 'm';
    private static final char NOT_OWNER = 'o';
    private static final char STOLEN = 's';
    private static final char BLOCKED = 'b';

    private static final char LEASE_ENTRY = 'l';
    private static final char RENEW_ENTRY = 'r';
    private static final char RELEASE_ENTRY = 'u';
    private static final char VALUE_ENTRY = 'v';

    private final Members members = new Members();
    private final Log log = new Log();
    private final Locks locks = new Locks();
    private final Clients clients = new Clients();
    private int now;
    private long leasedTicks;

    public LockQuorum() {
    }

    public int pass(int ticks) throws IllegalArgumentException {
        if (ticks < 1 || ticks > MAX_PASS) {
            throw new IllegalArgumentException("ticks must be 1 to 60");
        }
        now += ticks;
        return now;
    }

    public int time() {
        return now;
    }

    public boolean setDown(int member, boolean isDown) throws IndexOutOfBoundsException {
        checkMember(member);
        boolean before = members.down[member];
        members.down[member] = isDown;
        return before;
    }

    public boolean setCut(int member, int other, boolean isCut)
            throws IndexOutOfBoundsException, IllegalArgumentException {
        checkMember(member);
        checkMember(other);
        if (member == other) {
            throw new IllegalArgumentException("a member has no link with itself");
        }
        return members.cutLink(member, other, isCut);
    }

    public int reached(int member) throws IndexOutOfBoundsException {
        checkMember(member);
        return members.countReached(member);
    }

    public int stand(int member) throws IndexOutOfBoundsException, IllegalStateException {
        checkMember(member);
        if (members.down[member]) {
            throw new IllegalStateException("the member is down");
        }
        return members.holdVote(member);
    }

    public int termOf(int member) throws IndexOutOfBoundsException {
        checkMember(member);
        return members.term[member];
    }

    public boolean isLeader(int member) throws IndexOutOfBoundsException {
        checkMember(member);
        return members.leads(member);
    }

    public int leaderOf(int term) throws NoSuchElementException {
        int leader = members.winnerOf(term);
        if (leader == NONE) {
            throw new NoSuchElementException("no leader of this term");
        }
        return leader;
    }

    public int known(int member) throws IndexOutOfBoundsException {
        checkMember(member);
        return members.known[member];
    }

    public int ownerKnown(int member, int lock) throws IndexOutOfBoundsException, NoSuchElementException {
        checkMember(member);
        checkLock(lock);
        int client = log.ownerBy(members.known[member], lock);
        if (client == NONE) {
            throw new NoSuchElementException("no owner by what the member knows");
        }
        return client;
    }

    public int addClient() throws IllegalStateException {
        if (clients.count >= Clients.LIMIT) {
            throw new IllegalStateException("there are 6 clients");
        }
        int client = clients.count;
        clients.count++;
        return client;
    }

    public int setOffset(int client, int offset) throws NoSuchElementException, IllegalArgumentException {
        checkClient(client);
        if (offset < -MAX_OFFSET || offset > MAX_OFFSET) {
            throw new IllegalArgumentException("the offset must be -2 to 2");
        }
        int before = clients.offset[client];
        clients.offset[client] = offset;
        return before;
    }

    public boolean setPaused(int client, boolean isPaused) throws NoSuchElementException {
        checkClient(client);
        boolean before = clients.paused[client];
        clients.paused[client] = isPaused;
        return before;
    }

    public int clockOf(int client) throws NoSuchElementException {
        checkClient(client);
        return clients.clockAt(client, now);
    }

    public char request(int client, int lock, int member)
            throws NoSuchElementException, IndexOutOfBoundsException, IllegalStateException {
        return obtain(client, lock, member, false);
    }

    public char steal(int client, int lock, int member)
            throws NoSuchElementException, IndexOutOfBoundsException, IllegalStateException {
        return obtain(client, lock, member, true);
    }

    public char renew(int client, int lock, int member)
            throws NoSuchElementException, IndexOutOfBoundsException, IllegalStateException {
        char verdict = askAsOwner(client, lock, member);
        if (verdict != GRANTED) {
            return verdict;
        }
        if (locks.thief[lock] != NONE) {
            return STOLEN;
        }
        extendLease(client, lock, member);
        return GRANTED;
    }

    public char release(int client, int lock, int member)
            throws NoSuchElementException, IndexOutOfBoundsException, IllegalStateException {
        char verdict = askAsOwner(client, lock, member);
        if (verdict != GRANTED) {
            return verdict;
        }
        endLease(client, lock, member);
        return GRANTED;
    }

    public int quit(int client, int lock)
            throws NoSuchElementException, IndexOutOfBoundsException, UnsupportedOperationException {
        checkClient(client);
        checkLock(lock);
        if (locks.placeOf(lock, client) == NONE) {
            throw new UnsupportedOperationException("the client is not in the queue");
        }
        locks.takeOut(lock, client);
        if (locks.thief[lock] == client) {
            locks.thief[lock] = NONE;
        }
        return locks.queued[lock];
    }

    public char read(int client, int lock, int member)
            throws NoSuchElementException, IndexOutOfBoundsException, IllegalStateException {
        checkNumbers(client, lock, member);
        checkCanAsk(client, member);
        char verdict = members.consult(member);
        if (verdict == GRANTED) {
            clients.keepValue(client, lock, locks.value[lock], now);
        }
        return verdict;
    }

    public char write(int client, int lock, int member, int value)
            throws NoSuchElementException, IndexOutOfBoundsException, IllegalArgumentException,
            IllegalStateException {
        checkNumbers(client, lock, member);
        if (value < 0 || value > MAX_VALUE) {
            throw new IllegalArgumentException("the value must be 0 to 999");
        }
        checkCanAsk(client, member);
        char verdict = members.consult(member);
        if (verdict != GRANTED) {
            return verdict;
        }
        if (!clients.hasClaim(client, lock, now) || !locks.isHeldBy(lock, client, now)) {
            return NOT_OWNER;
        }
        if (clients.isKeptByPaused(lock, now)) {
            return BLOCKED;
        }
        changeValue(client, lock, member, value);
        return GRANTED;
    }

    public int owner(int lock) throws IndexOutOfBoundsException, NoSuchElementException {
        checkLock(lock);
        checkNotFree(lock);
        return locks.owner[lock];
    }

    public int ownerByLog(int lock) throws IndexOutOfBoundsException, NoSuchElementException {
        checkLock(lock);
        int client = log.holderAt(lock, now);
        if (client == NONE) {
            throw new NoSuchElementException("the lock is free");
        }
        return client;
    }

    public int endOf(int lock) throws IndexOutOfBoundsException, NoSuchElementException {
        checkLock(lock);
        checkNotFree(lock);
        return locks.end[lock];
    }

    public int thief(int lock) throws IndexOutOfBoundsException, NoSuchElementException {
        checkLock(lock);
        if (locks.thief[lock] == NONE) {
            throw new NoSuchElementException("the lock has no thief");
        }
        return locks.thief[lock];
    }

    public int waiting(int lock) throws IndexOutOfBoundsException {
        checkLock(lock);
        return locks.queued[lock];
    }

    public int waitingAt(int lock, int index) throws IndexOutOfBoundsException, NoSuchElementException {
        checkLock(lock);
        if (index < 0 || index >= locks.queued[lock]) {
            throw new NoSuchElementException("no such index in the queue");
        }
        return locks.queue[lock][index];
    }

    public boolean claims(int client, int lock) throws NoSuchElementException, IndexOutOfBoundsException {
        checkClient(client);
        checkLock(lock);
        return clients.hasClaim(client, lock, now);
    }

    public int claimants(int lock) throws IndexOutOfBoundsException {
        checkLock(lock);
        return clients.countClaims(lock, now);
    }

    public int value(int lock) throws IndexOutOfBoundsException {
        checkLock(lock);
        return locks.value[lock];
    }

    public int valueByLog(int lock) throws IndexOutOfBoundsException {
        checkLock(lock);
        return log.lastValue(lock);
    }

    public int kept(int client, int lock)
            throws NoSuchElementException, IndexOutOfBoundsException, IllegalStateException {
        checkClient(client);
        checkLock(lock);
        if (!clients.hasValue(client, lock, now)) {
            throw new IllegalStateException("the client has no kept value now");
        }
        return clients.keptValue[Clients.slot(client, lock)];
    }

    public int entries() {
        return log.count;
    }

    public char kindOf(int entry) throws NoSuchElementException {
        checkEntry(entry);
        return log.kind[entry];
    }

    public int termOfEntry(int entry) throws NoSuchElementException {
        checkEntry(entry);
        return log.term[entry];
    }

    public int knownBy(int entry) throws NoSuchElementException {
        checkEntry(entry);
        return members.countKnowing(entry);
    }

    public long leased() {
        return leasedTicks;
    }

    public float upShare() {
        return (float) members.countUp() / (float) Members.COUNT;
    }

    public double meanKnown() throws ArithmeticException {
        if (log.count == 0) {
            throw new ArithmeticException("there are no entries");
        }
        return (double) members.sumKnown() / (double) (Members.COUNT * log.count);
    }

    public boolean isOneOrder() {
        return log.isInTermOrder() && isKnownByMost() && agreesWithLog() && isClaimedOnce();
    }

    private void checkMember(int member) {
        if (member < 0 || member >= Members.COUNT) {
            throw new IndexOutOfBoundsException("no such member");
        }
    }

    private void checkLock(int lock) {
        if (lock < 0 || lock >= Locks.COUNT) {
            throw new IndexOutOfBoundsException("no such lock");
        }
    }

    private void checkClient(int client) {
        if (client < 0 || client >= clients.count) {
            throw new NoSuchElementException("no such client");
        }
    }

    private void checkEntry(int entry) {
        if (entry < 0 || entry >= log.count) {
            throw new NoSuchElementException("no such entry");
        }
    }

    private void checkNotFree(int lock) {
        if (locks.isFree(lock, now)) {
            throw new NoSuchElementException("the lock is free");
        }
    }

    private void checkNumbers(int client, int lock, int member) {
        checkClient(client);
        checkLock(lock);
        checkMember(member);
    }

    /** A full log refuses every question, also one that would make no entry. */
    private void checkCanAsk(int client, int member) {
        if (clients.paused[client]) {
            throw new IllegalStateException("the client is paused");
        }
        if (members.down[member] || !members.leads(member)) {
            throw new IllegalStateException("the member is down or no leader");
        }
        if (log.count >= Log.LIMIT) {
            throw new IllegalStateException("there are 250 entries");
        }
    }

    private char obtain(int client, int lock, int member, boolean isTheft) {
        checkNumbers(client, lock, member);
        checkCanAsk(client, member);
        char verdict = members.consult(member);
        if (verdict != GRANTED) {
            return verdict;
        }
        if (locks.isHeldBy(lock, client, now)) {
            return HELD;
        }
        if (locks.isFree(lock, now) && locks.isNext(lock, client)) {
            startLease(client, lock, member);
            return GRANTED;
        }
        if (isTheft) {
            locks.putFirst(lock, client);
            locks.thief[lock] = client;
            return WAITING_AS_THIEF;
        }
        locks.putLast(lock, client);
        return WAITING;
    }

    private char askAsOwner(int client, int lock, int member) {
        checkNumbers(client, lock, member);
        checkCanAsk(client, member);
        char verdict = members.consult(member);
        return verdict == GRANTED && !locks.isHeldBy(lock, client, now) ? NOT_OWNER : verdict;
    }

    private void startLease(int client, int lock, int member) {
        locks.takeOut(lock, client);
        locks.thief[lock] = NONE;
        locks.owner[lock] = client;
        locks.end[lock] = now + LEASE_TICKS;
        leasedTicks += LEASE_TICKS;
        clients.noteLease(client, lock, now);
        makeEntry(member, LEASE_ENTRY, client, lock, locks.end[lock]);
    }

    private void extendLease(int client, int lock, int member) {
        int end = now + LEASE_TICKS;
        leasedTicks += end - locks.end[lock];
        locks.end[lock] = end;
        clients.noteLease(client, lock, now);
        makeEntry(member, RENEW_ENTRY, client, lock, end);
    }

    private void endLease(int client, int lock, int member) {
        leasedTicks -= locks.end[lock] - now;
        locks.owner[lock] = NONE;
        clients.dropLease(client, lock);
        makeEntry(member, RELEASE_ENTRY, client, lock, 0);
    }

    private void changeValue(int client, int lock, int member, int value) {
        clients.dropValues(lock);
        locks.value[lock] = value;
        makeEntry(member, VALUE_ENTRY, client, lock, value);
    }

    private void makeEntry(int leader, char kind, int client, int lock, int detail) {
        log.add(kind, members.term[leader], client, lock, detail);
        members.teach(leader, log.count);
    }

    private boolean isKnownByMost() {
        for (int entry = 0; entry < log.count; entry++) {
            if (members.countKnowing(entry) < Members.QUORUM) {
                return false;
            }
        }
        return true;
    }

    private boolean agreesWithLog() {
        for (int lock = 0; lock < Locks.COUNT; lock++) {
            int holder = locks.isFree(lock, now) ? NONE : locks.owner[lock];
            if (holder != log.holderAt(lock, now) || locks.value[lock] != log.lastValue(lock)) {
                return false;
            }
        }
        return true;
    }

    private boolean isClaimedOnce() {
        for (int lock = 0; lock < Locks.COUNT; lock++) {
            if (clients.countClaims(lock, now) > 1) {
                return false;
            }
        }
        return true;
    }

    /** The members: their links, terms and votes, and how many entries each knows. */
    private static final class Members {
        static final int COUNT = 5;
        static final int QUORUM = 3;
        // Each stand raises the greatest term by 1 at most, and an object answers 512 calls.
        static final int MAX_TERM = 512;

        final boolean[] down = new boolean[COUNT];
        final int[] term = new int[COUNT];
        final int[] known = new int[COUNT];
        private final boolean[] cut = new boolean[COUNT * COUNT];
        private final int[] winner = new int[MAX_TERM + 1];

        Members() {
            Arrays.fill(winner, NONE);
        }

        /** Keeps both directions, so that reaching need not know which member was named first. */
        boolean cutLink(int member, int other, boolean isCut) {
            boolean before = cut[member * COUNT + other];
            cut[member * COUNT + other] = isCut;
            cut[other * COUNT + member] = isCut;
            return before;
        }

        boolean reaches(int from, int to) {
            return !down[from] && !down[to] && !cut[from * COUNT + to];
        }

        int countReached(int member) {
            int count = 0;
            for (int other = 0; other < COUNT; other++) {
                if (reaches(member, other)) {
                    count++;
                }
            }
            return count;
        }

        /** Lets a member that is up stand for leader, and returns its votes. */
        int holdVote(int member) {
            int next = term[member] + 1;
            term[member] = next;
            int votes = 1;
            for (int other = 0; other < COUNT; other++) {
                if (reaches(member, other) && term[other] < next) {
                    term[other] = next;
                    if (known[other] <= known[member]) {
                        votes++;
                    }
                }
            }
            if (votes >= QUORUM && next >= 0 && next < winner.length) {
                winner[next] = member;
            }
            return votes;
        }

        int winnerOf(int wanted) {
            return wanted >= 0 && wanted < winner.length ? winner[wanted] : NONE;
        }

        /** A term has one leader at most, since a member votes once in it and three votes are needed. */
        boolean leads(int member) {
            return winnerOf(term[member]) == member;
        }

        /** Answers what hinders the leader; if nothing does, all that it reaches take its term. */
        char consult(int leader) {
            int greatest = greatestTermReached(leader);
            if (greatest > term[leader]) {
                term[leader] = greatest;
                return TERM_PASSED;
            }
            if (countReached(leader) < QUORUM) {
                return NO_QUORUM;
            }
            for (int other = 0; other < COUNT; other++) {
                if (reaches(leader, other)) {
                    term[other] = term[leader];
                }
            }
            return GRANTED;
        }

        private int greatestTermReached(int member) {
            int greatest = term[member];
            for (int other = 0; other < COUNT; other++) {
                if (reaches(member, other) && term[other] > greatest) {
                    greatest = term[other];
                }
            }
            return greatest;
        }

        void teach(int leader, int entryCount) {
            for (int other = 0; other < COUNT; other++) {
                if (reaches(leader, other)) {
                    known[other] = entryCount;
                }
            }
        }

        int countKnowing(int entry) {
            int count = 0;
            for (int member = 0; member < COUNT; member++) {
                if (known[member] > entry) {
                    count++;
                }
            }
            return count;
        }

        int sumKnown() {
            int sum = 0;
            for (int member = 0; member < COUNT; member++) {
                sum += known[member];
            }
            return sum;
        }

        int countUp() {
            int count = 0;
            for (int member = 0; member < COUNT; member++) {
                if (!down[member]) {
                    count++;
                }
            }
            return count;
        }
    }

    /** The entries, in the order in which they were made. */
    private static final class Log {
        static final int LIMIT = 250;

        int count;
        final char[] kind = new char[LIMIT];
        final int[] term = new int[LIMIT];
        private final int[] client = new int[LIMIT];
        private final int[] lock = new int[LIMIT];
        // The end of a lease for 'l' and 'r', the new value for 'v'.
        private final int[] detail = new int[LIMIT];

        void add(char newKind, int newTerm, int newClient, int newLock, int newDetail) {
            if (count >= LIMIT) {
                return;
            }
            kind[count] = newKind;
            term[count] = newTerm;
            client[count] = newClient;
            lock[count] = newLock;
            detail[count] = newDetail;
            count++;
        }

        /** Returns the owner by the first entries alone, also if the lease has ended since. */
        int ownerBy(int firstEntries, int wantedLock) {
            int owner = NONE;
            for (int entry = 0; entry < firstEntries && entry < count; entry++) {
                if (lock[entry] == wantedLock) {
                    if (kind[entry] == LEASE_ENTRY) {
                        owner = client[entry];
                    } else if (kind[entry] == RELEASE_ENTRY) {
                        owner = NONE;
                    }
                }
            }
            return owner;
        }

        private int lastEnd(int wantedLock) {
            int end = 0;
            for (int entry = 0; entry < count; entry++) {
                if (lock[entry] == wantedLock
                        && (kind[entry] == LEASE_ENTRY || kind[entry] == RENEW_ENTRY)) {
                    end = detail[entry];
                }
            }
            return end;
        }

        int holderAt(int wantedLock, int time) {
            return lastEnd(wantedLock) > time ? ownerBy(count, wantedLock) : NONE;
        }

        int lastValue(int wantedLock) {
            int value = 0;
            for (int entry = 0; entry < count; entry++) {
                if (lock[entry] == wantedLock && kind[entry] == VALUE_ENTRY) {
                    value = detail[entry];
                }
            }
            return value;
        }

        boolean isInTermOrder() {
            for (int entry = 1; entry < count; entry++) {
                if (term[entry] < term[entry - 1]) {
                    return false;
                }
            }
            return true;
        }
    }

    /** The locks: owners, ends, thieves, queues and values, as the leaders keep them. */
    private static final class Locks {
        static final int COUNT = 4;

        final int[] owner = new int[COUNT];
        final int[] end = new int[COUNT];
        final int[] thief = new int[COUNT];
        final int[] value = new int[COUNT];
        final int[] queued = new int[COUNT];
        final int[][] queue = new int[COUNT][Clients.LIMIT];

        Locks() {
            Arrays.fill(owner, NONE);
            Arrays.fill(thief, NONE);
        }

        boolean isFree(int lock, int time) {
            return owner[lock] == NONE || end[lock] <= time;
        }

        boolean isHeldBy(int lock, int client, int time) {
            return !isFree(lock, time) && owner[lock] == client;
        }

        boolean isNext(int lock, int client) {
            return queued[lock] == 0 || queue[lock][0] == client;
        }

        int placeOf(int lock, int client) {
            for (int place = 0; place < queued[lock]; place++) {
                if (queue[lock][place] == client) {
                    return place;
                }
            }
            return NONE;
        }

        void takeOut(int lock, int client) {
            int place = placeOf(lock, client);
            if (place == NONE) {
                return;
            }
            int[] row = queue[lock];
            queued[lock]--;
            for (int i = place; i < queued[lock] && i + 1 < row.length; i++) {
                row[i] = row[i + 1];
            }
        }

        void putLast(int lock, int client) {
            if (placeOf(lock, client) == NONE && queued[lock] < Clients.LIMIT) {
                queue[lock][queued[lock]] = client;
                queued[lock]++;
            }
        }

        /** A client that waits already leaves its old place, so the queue never names it twice. */
        void putFirst(int lock, int client) {
            takeOut(lock, client);
            int[] row = queue[lock];
            if (queued[lock] >= row.length) {
                return;
            }
            for (int i = queued[lock]; i > 0; i--) {
                row[i] = row[i - 1];
            }
            row[0] = client;
            queued[lock]++;
        }
    }

    /** The clients: their clocks, and what each notes of its leases and kept values, lock by lock. */
    private static final class Clients {
        static final int LIMIT = 6;
        private static final int CLAIM_TICKS = 8;
        private static final int KEEP_TICKS = 6;
        private static final int NOTED_TICKS = 10;

        int count;
        final boolean[] paused = new boolean[LIMIT];
        final int[] offset = new int[LIMIT];
        final int[] keptValue = new int[LIMIT * Locks.COUNT];
        private final boolean[] leases = new boolean[LIMIT * Locks.COUNT];
        private final int[] leaseClock = new int[LIMIT * Locks.COUNT];
        private final boolean[] keeps = new boolean[LIMIT * Locks.COUNT];
        private final int[] keptClock = new int[LIMIT * Locks.COUNT];
        // What the leaders believe; the client's own clock may let its value go earlier.
        private final int[] keptUntil = new int[LIMIT * Locks.COUNT];

        static int slot(int client, int lock) {
            return client * Locks.COUNT + lock;
        }

        int clockAt(int client, int time) {
            return time + offset[client];
        }

        void noteLease(int client, int lock, int time) {
            leases[slot(client, lock)] = true;
            leaseClock[slot(client, lock)] = clockAt(client, time);
        }

        void dropLease(int client, int lock) {
            leases[slot(client, lock)] = false;
        }

        boolean hasClaim(int client, int lock, int time) {
            int slot = slot(client, lock);
            return !paused[client] && leases[slot]
                    && clockAt(client, time) - leaseClock[slot] < CLAIM_TICKS;
        }

        int countClaims(int lock, int time) {
            int claiming = 0;
            for (int client = 0; client < count; client++) {
                if (hasClaim(client, lock, time)) {
                    claiming++;
                }
            }
            return claiming;
        }

        void keepValue(int client, int lock, int value, int time) {
            int slot = slot(client, lock);
            keeps[slot] = true;
            keptValue[slot] = value;
            keptClock[slot] = clockAt(client, time);
            keptUntil[slot] = time + NOTED_TICKS;
        }

        boolean hasValue(int client, int lock, int time) {
            int slot = slot(client, lock);
            return !paused[client] && keeps[slot]
                    && clockAt(client, time) - keptClock[slot] < KEEP_TICKS;
        }

        boolean isKeptByPaused(int lock, int time) {
            for (int client = 0; client < count; client++) {
                if (paused[client] && keptUntil[slot(client, lock)] > time) {
                    return true;
                }
            }
            return false;
        }

        void dropValues(int lock) {
            for (int client = 0; client < count; client++) {
                keeps[slot(client, lock)] = false;
                keptUntil[slot(client, lock)] = 0;
            }
        }
    }
}
