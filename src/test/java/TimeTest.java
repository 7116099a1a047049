/** Promises 1 to 3: a new object, and its time. */
public final class TimeTest {
    private static final Check CHECK = new Check();

    public static void main(String[] args) {
        promise01NewObject();
        promise02Pass();
        promise03Time();
        CHECK.finish("TimeTest");
    }

    private static void promise01NewObject() {
        LockQuorum x = new LockQuorum();
        CHECK.is("time of a new object", x.time(), 0);
        CHECK.is("entries of a new object", x.entries(), 0);
        CHECK.is("leased of a new object", x.leased(), 0L);
        CHECK.is("upShare of a new object", x.upShare(), 1.0f);
        CHECK.is("isOneOrder of a new object", x.isOneOrder(), true);
        for (int member = 0; member < 5; member++) {
            CHECK.is("reached of a new member", x.reached(member), 5);
            CHECK.is("termOf a new member", x.termOf(member), 0);
            CHECK.is("known of a new member", x.known(member), 0);
            CHECK.is("isLeader of a new member", x.isLeader(member), false);
            CHECK.is("setDown of a new member", x.setDown(member, false), false);
        }
        for (int lock = 0; lock < 4; lock++) {
            int each = lock;
            CHECK.is("value of a new lock", x.value(lock), 0);
            CHECK.is("waiting of a new lock", x.waiting(lock), 0);
            CHECK.is("claimants of a new lock", x.claimants(lock), 0);
            CHECK.fails("owner of a new lock", java.util.NoSuchElementException.class, () -> x.owner(each));
            CHECK.fails("thief of a new lock", java.util.NoSuchElementException.class, () -> x.thief(each));
        }
        CHECK.fails("client 0 of a new object", java.util.NoSuchElementException.class, () -> x.clockOf(0));
        CHECK.is("the first client", x.addClient(), 0);
    }

    private static void promise02Pass() {
        LockQuorum x = new LockQuorum();
        CHECK.is("pass(1)", x.pass(1), 1);
        CHECK.is("pass(60)", x.pass(60), 61);
        CHECK.is("pass(7)", x.pass(7), 68);
        for (int ticks : new int[] {0, -1, 61, Integer.MAX_VALUE, Integer.MIN_VALUE}) {
            CHECK.fails("pass(" + ticks + ")", IllegalArgumentException.class, () -> x.pass(ticks));
        }
        CHECK.is("time after wrong passes", x.time(), 68);
    }

    private static void promise03Time() {
        LockQuorum x = new LockQuorum();
        x.pass(3);
        CHECK.is("time", x.time(), 3);
        CHECK.is("time looks only", x.time(), 3);
        x.stand(0);
        x.addClient();
        x.request(0, 0, 0);
        CHECK.is("time after other calls", x.time(), 3);
        for (int i = 0; i < 512; i++) {
            x.pass(60);
        }
        CHECK.is("time after many passes", x.time(), 3 + 512 * 60);
    }
}
