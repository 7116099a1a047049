/** Objects to begin a test with, and numbers that are just out of range. */
final class Keepers {
    static final int[] NO_MEMBERS = {-1, 5, Integer.MAX_VALUE, Integer.MIN_VALUE};
    static final int[] NO_LOCKS = {-1, 4, Integer.MAX_VALUE, Integer.MIN_VALUE};
    static final String[] QUESTIONS = {"request", "steal", "renew", "release", "read", "write"};

    private Keepers() {
    }

    /** Member 0 leads term 1. */
    static LockQuorum withClients(int count) {
        LockQuorum x = new LockQuorum();
        x.stand(0);
        for (int client = 0; client < count; client++) {
            x.addClient();
        }
        return x;
    }

    /** Client 0 owns lock 0 and has made so many entries, the last ones renewals. */
    static LockQuorum withEntries(int clients, int entries) {
        LockQuorum x = withClients(clients);
        x.request(0, 0, 0);
        for (int entry = 1; entry < entries; entry++) {
            x.renew(0, 0, 0);
        }
        return x;
    }

    static int[] noClientsOf(int count) {
        return new int[] {-1, count, Integer.MAX_VALUE, Integer.MIN_VALUE};
    }

    static void cutOff(LockQuorum x, int member, boolean isCut) {
        for (int other = 0; other < 5; other++) {
            if (other != member) {
                x.setCut(member, other, isCut);
            }
        }
    }

    /** Raises the term of a member alone. */
    static void raiseTerm(LockQuorum x, int member, int times) {
        cutOff(x, member, true);
        for (int i = 0; i < times; i++) {
            x.stand(member);
        }
        cutOff(x, member, false);
    }

    static char ask(LockQuorum x, int question, int client, int lock, int member) {
        switch (question) {
            case 0: return x.request(client, lock, member);
            case 1: return x.steal(client, lock, member);
            case 2: return x.renew(client, lock, member);
            case 3: return x.release(client, lock, member);
            case 4: return x.read(client, lock, member);
            default: return x.write(client, lock, member, 1);
        }
    }
}
