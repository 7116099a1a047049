import java.util.Map;
import java.util.TreeMap;
import java.util.function.Supplier;

/** Runs of 512 calls, drawn from fixed numbers, on LockQuorum and on the Model: each answer is the same on both. */
public final class RandomRunsTest {
    private static final int RUNS = 1500;
    private static final int CALLS = 512;
    private static final Check CHECK = new Check();
    /** How often each call gave each answer, so that runs which reach too little are found. */
    private static final Map<String, Integer> SEEN = new TreeMap<>();

    private long seed;
    private int wildness;
    private LockQuorum quorum;
    private Model model;

    public static void main(String[] args) {
        RandomRunsTest runs = new RandomRunsTest();
        for (int run = 0; run < RUNS; run++) {
            runs.play(run);
        }
        needSeen("request", "g", "w", "h", "t", "n", "NoSuchElementException", "IndexOutOfBoundsException",
                "IllegalStateException");
        needSeen("steal", "g", "m", "h", "t", "n");
        needSeen("renew", "g", "o", "s", "t", "n");
        needSeen("release", "g", "o", "t", "n");
        needSeen("read", "g", "t", "n");
        needSeen("write", "g", "o", "b", "t", "n", "IllegalArgumentException");
        needSeen("stand", "1", "2", "3", "4", "5", "IllegalStateException");
        needSeen("quit", "0", "1", "2", "3", "UnsupportedOperationException");
        needSeen("kept", "0", "IllegalStateException");
        needSeen("claims", "true", "false");
        needSeen("ownerKnown", "0", "5", "NoSuchElementException");
        needSeen("thief", "0", "5", "NoSuchElementException");
        needSeen("end with", "250");
        CHECK.finish("RandomRunsTest");
    }

    private static void needSeen(String call, String... answers) {
        for (String answer : answers) {
            CHECK.is(call + " answered " + answer, SEEN.getOrDefault(call + " " + answer, 0) > 9, true);
        }
    }

    private void play(int run) {
        seed = 7919L * run + 17;
        wildness = run % 5;
        quorum = new LockQuorum();
        model = new Model();
        for (int call = 0; call < CALLS; call++) {
            String where = "run " + run + " call " + call + ": ";
            if (call < 8) {
                begin(where, call);
            } else if (run % 50 == 0 && call < 480) {
                fillLog(where);
            } else if (below(100) < 55) {
                act(where, below(23));
            } else if (below(100) < 40) {
                ask(where, below(6));
            } else {
                lookAtOne(where, below(23));
            }
        }
        SEEN.merge("end with " + model.entries(), 1, Integer::sum);
    }

    /** Most runs need clients and a leader at once; in the others the first calls meet an empty object. */
    private void begin(String where, int call) {
        if (wildness == 4) {
            act(where, below(23));
        } else if (call < 6) {
            same(where, "addClient", quorum::addClient, model::addClient);
        } else {
            int member = below(5);
            same(where, "stand", () -> quorum.stand(member), () -> model.stand(member));
        }
    }

    /** Renewals and writes alone, but for what is needed to have owners, so that runs reach the 250 entries. */
    private void fillLog(String where) {
        int lock = below(4);
        int member = someLeader();
        int client = someOwner(lock, below(6));
        switch (below(20)) {
            case 0 -> same(where, "pass", () -> quorum.pass(1), () -> model.pass(1));
            case 1 -> same(where, "stand", () -> quorum.stand(member), () -> model.stand(member));
            case 2, 3 -> same(where, "write", () -> quorum.write(client, lock, member, lock),
                    () -> model.write(client, lock, member, lock));
            case 4, 5, 6 -> same(where, "request", () -> quorum.request(client, lock, member),
                    () -> model.request(client, lock, member));
            default -> same(where, "renew", () -> quorum.renew(client, lock, member),
                    () -> model.renew(client, lock, member));
        }
    }

    private void act(String where, int what) {
        int member = index(5);
        int other = index(5);
        int client = index(6);
        int lock = index(4);
        boolean flag = below(wildness == 0 ? 4 : 2) == 0;
        if (what < 3) {
            int ticks = below(20) == 0 ? below(64) - 1 : 1 + below(5);
            same(where, "pass", () -> quorum.pass(ticks), () -> model.pass(ticks));
        } else if (what == 3) {
            same(where, "setDown", () -> quorum.setDown(member, flag), () -> model.setDown(member, flag));
        } else if (what == 4) {
            same(where, "setCut", () -> quorum.setCut(member, other, flag), () -> model.setCut(member, other, flag));
        } else if (what < 5 + Math.max(1, wildness)) {
            same(where, "stand", () -> quorum.stand(member), () -> model.stand(member));
        } else if (what == 9) {
            same(where, "addClient", quorum::addClient, model::addClient);
        } else if (what == 10) {
            int offset = below(7) - 3;
            same(where, "setOffset", () -> quorum.setOffset(client, offset), () -> model.setOffset(client, offset));
        } else if (what == 11) {
            same(where, "setPaused", () -> quorum.setPaused(client, flag), () -> model.setPaused(client, flag));
        } else if (what == 12) {
            same(where, "quit", () -> quorum.quit(client, lock), () -> model.quit(client, lock));
        } else {
            ask(where, below(9));
        }
    }

    private void ask(String where, int what) {
        int client = index(6);
        int lock = below(3) == 0 ? index(4) : 0;
        int member = below(20) == 0 ? index(5) : someLeader();
        int value = below(20) == 0 ? below(1200) - 100 : below(1000);
        int owner = below(3) == 0 ? client : someOwner(lock, client);
        switch (what) {
            case 0 -> same(where, "request", () -> quorum.request(client, lock, member),
                    () -> model.request(client, lock, member));
            case 1 -> same(where, "steal", () -> quorum.steal(client, lock, member),
                    () -> model.steal(client, lock, member));
            case 2, 6 -> same(where, "renew", () -> quorum.renew(owner, lock, member),
                    () -> model.renew(owner, lock, member));
            case 3 -> same(where, "release", () -> quorum.release(owner, lock, member),
                    () -> model.release(owner, lock, member));
            case 4, 7 -> same(where, "read", () -> quorum.read(client, lock, member),
                    () -> model.read(client, lock, member));
            default -> same(where, "write", () -> quorum.write(owner, lock, member, value),
                    () -> model.write(owner, lock, member, value));
        }
    }

    private int someLeader() {
        int first = below(5);
        for (int i = 0; i < 5; i++) {
            int member = (first + i) % 5;
            if (model.isLeader(member) && model.reached(member) > 0) {
                return member;
            }
        }
        return first;
    }

    private int someOwner(int lock, int otherwise) {
        try {
            return model.owner(lock);
        } catch (RuntimeException free) {
            return otherwise;
        }
    }

    private void lookAtOne(String where, int what) {
        int member = index(5);
        int client = index(6);
        int lock = index(4);
        int number = below(20) == 0 ? below(300) - 20 : below(model.entries() + 2) - 1;
        switch (what) {
            case 0 -> same(where, "reached", () -> quorum.reached(member), () -> model.reached(member));
            case 1 -> same(where, "termOf", () -> quorum.termOf(member), () -> model.termOf(member));
            case 2 -> same(where, "isLeader", () -> quorum.isLeader(member), () -> model.isLeader(member));
            case 3 -> same(where, "leaderOf", () -> quorum.leaderOf(number), () -> model.leaderOf(number));
            case 4 -> same(where, "known", () -> quorum.known(member), () -> model.known(member));
            case 5 -> same(where, "ownerKnown", () -> quorum.ownerKnown(member, lock),
                    () -> model.ownerKnown(member, lock));
            case 6 -> same(where, "clockOf", () -> quorum.clockOf(client), () -> model.clockOf(client));
            case 7 -> same(where, "owner", () -> quorum.owner(lock), () -> model.owner(lock));
            case 8 -> same(where, "ownerByLog", () -> quorum.ownerByLog(lock), () -> model.owner(lock));
            case 9 -> same(where, "endOf", () -> quorum.endOf(lock), () -> model.endOf(lock));
            case 10 -> same(where, "thief", () -> quorum.thief(lock), () -> model.thief(lock));
            case 11 -> same(where, "waiting", () -> quorum.waiting(lock), () -> model.waiting(lock));
            case 12 -> same(where, "waitingAt", () -> quorum.waitingAt(lock, client),
                    () -> model.waitingAt(lock, client));
            case 13 -> same(where, "claims", () -> quorum.claims(client, lock), () -> model.claims(client, lock));
            case 14 -> same(where, "claimants", () -> quorum.claimants(lock), () -> model.claimants(lock));
            case 15 -> same(where, "value", () -> quorum.value(lock), () -> model.value(lock));
            case 16 -> same(where, "valueByLog", () -> quorum.valueByLog(lock), () -> model.value(lock));
            case 17 -> same(where, "kept", () -> quorum.kept(client, lock), () -> model.kept(client, lock));
            case 18 -> same(where, "kindOf", () -> quorum.kindOf(number), () -> model.kindOf(number));
            case 19 -> same(where, "termOfEntry", () -> quorum.termOfEntry(number), () -> model.termOfEntry(number));
            case 20 -> same(where, "knownBy", () -> quorum.knownBy(number), () -> model.knownBy(number));
            default -> lookAtWhole(where, below(20));
        }
    }

    private void lookAtWhole(String where, int what) {
        if (what == 0) {
            same(where, "leased", quorum::leased, model::leased);
        } else if (what < 4) {
            same(where, "entries", quorum::entries, model::entries);
        } else if (what < 8) {
            same(where, "time", quorum::time, model::time);
        } else if (what < 12) {
            same(where, "upShare", quorum::upShare, model::upShare);
        } else if (what < 16) {
            same(where, "meanKnown", quorum::meanKnown, model::meanKnown);
        } else {
            same(where, "isOneOrder", quorum::isOneOrder, () -> true);
        }
    }

    private void same(String where, String call, Supplier<Object> asked, Supplier<Object> due) {
        String want = answer(due);
        SEEN.merge(call + " " + want, 1, Integer::sum);
        CHECK.is(where + call, answer(asked), want);
    }

    private static String answer(Supplier<Object> call) {
        try {
            return String.valueOf(call.get());
        } catch (RuntimeException e) {
            return e.getClass().getSimpleName();
        }
    }

    /** Now and then a number that is just out of range. */
    private int index(int count) {
        int drawn = below(40);
        return drawn == 0 ? -1 : drawn == 1 ? count : below(count);
    }

    private int below(int bound) {
        seed = seed * 6364136223846793005L + 1442695040888963407L;
        return (int) ((seed >>> 33) % bound);
    }
}
