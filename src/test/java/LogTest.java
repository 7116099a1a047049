import java.lang.reflect.Array;
import java.lang.reflect.Field;
import java.util.NoSuchElementException;

/** Promises 35 to 38 and 40 to 42: entries, who knows them, and the check of the whole. */
public final class LogTest {
    private static final Check CHECK = new Check();
    private static final int[] NO_ENTRIES = {-1, 4, 249, 250, Integer.MAX_VALUE, Integer.MIN_VALUE};

    public static void main(String[] args) throws ReflectiveOperationException {
        promises35To38Entries();
        promise38KnownBy();
        promise40UpShare();
        promise41MeanKnown();
        promise42IsOneOrder();
        promise42Disorder();
        CHECK.finish("LogTest");
    }

    private static void promises35To38Entries() {
        LockQuorum x = new LockQuorum();
        x.addClient();
        x.addClient();
        CHECK.fails("kindOf(0) of none", NoSuchElementException.class, () -> x.kindOf(0));
        x.stand(0);
        x.request(0, 0, 0);
        x.stand(1);
        x.stand(1);
        x.renew(0, 0, 1);
        x.write(0, 0, 1, 8);
        x.stand(2);
        x.release(0, 0, 2);
        CHECK.is("entries()", x.entries(), 4);
        x.release(0, 0, 2);
        x.read(0, 0, 2);
        CHECK.is("entries() after 'o' and a read", x.entries(), 4);
        char[] kinds = {'l', 'r', 'v', 'u'};
        int[] terms = {1, 3, 3, 4};
        for (int entry = 0; entry < 4; entry++) {
            CHECK.is("kindOf", x.kindOf(entry), kinds[entry]);
            CHECK.is("termOfEntry", x.termOfEntry(entry), terms[entry]);
            CHECK.is("knownBy", x.knownBy(entry), 5);
        }
        for (int none : NO_ENTRIES) {
            CHECK.fails("kindOf(none)", NoSuchElementException.class, () -> x.kindOf(none));
            CHECK.fails("termOfEntry(none)", NoSuchElementException.class, () -> x.termOfEntry(none));
            CHECK.fails("knownBy(none)", NoSuchElementException.class, () -> x.knownBy(none));
        }
    }

    private static void promise38KnownBy() {
        LockQuorum x = threeEntries();
        CHECK.is("knownBy(0)", x.knownBy(0), 5);
        CHECK.is("knownBy(1)", x.knownBy(1), 4);
        CHECK.is("knownBy(2)", x.knownBy(2), 3);
        x.setDown(3, false);
        x.setDown(4, false);
        x.renew(0, 0, 0);
        CHECK.is("knownBy(2), caught up", x.knownBy(2), 5);
    }

    private static void promise40UpShare() {
        LockQuorum x = new LockQuorum();
        CHECK.is("upShare() of 5", x.upShare(), 1.0f);
        for (int member = 4; member >= 0; member--) {
            x.setDown(member, true);
            CHECK.is("upShare()", x.upShare(), (float) member / 5.0f);
        }
        x.setDown(2, false);
        CHECK.is("upShare() of 1", x.upShare(), 0.2f);
    }

    private static void promise41MeanKnown() {
        LockQuorum x = new LockQuorum();
        CHECK.fails("meanKnown() of none", ArithmeticException.class, x::meanKnown);
        x.addClient();
        x.stand(0);
        x.request(0, 0, 0);
        CHECK.is("meanKnown() of all", x.meanKnown(), 1.0);
        CHECK.is("meanKnown() of some", threeEntries().meanKnown(), 12.0 / 15.0);
    }

    private static void promise42IsOneOrder() {
        LockQuorum x = threeEntries();
        CHECK.is("isOneOrder()", x.isOneOrder(), true);
        x.pass(12);
        CHECK.is("isOneOrder() after the end", x.isOneOrder(), true);
        x.addClient();
        x.request(1, 0, 0);
        x.write(1, 0, 0, 77);
        x.setOffset(0, -2);
        CHECK.is("isOneOrder() of the next", x.isOneOrder(), true);
        x.release(1, 0, 0);
        CHECK.is("isOneOrder() after a release", x.isOneOrder(), true);
        LockQuorum y = new LockQuorum();
        y.stand(0);
        for (int client = 0; client < 6; client++) {
            y.addClient();
            y.request(client, client % 4, 0);
        }
        CHECK.is("isOneOrder() of six clients and four leases", y.isOneOrder(), true);
    }

    /** No run of calls leads to disorder, so that the state itself has to be spoilt to see it found. */
    private static void promise42Disorder() throws ReflectiveOperationException {
        String[][] spoils = {
            {"log", "term", "0", "9"}, {"members", "known", "0", "0"}, {"members", "known", "0", "2"},
            {"locks", "owner", "0", "1"}, {"locks", "owner", "0", "-1"}, {"locks", "end", "0", "0"},
            {"locks", "value", "3", "1"}, {"locks", "owner", "3", "0"},
        };
        for (String[] spoil : spoils) {
            LockQuorum x = threeEntries();
            Array.setInt(part(part(x, spoil[0]), spoil[1]), Integer.parseInt(spoil[2]), Integer.parseInt(spoil[3]));
            if (spoil[1].equals("owner") && spoil[2].equals("3")) {
                Array.setInt(part(part(x, "locks"), "end"), 3, 60);
            }
            CHECK.is("isOneOrder() with " + String.join(" ", spoil), x.isOneOrder(), false);
        }
        LockQuorum x = threeEntries();
        x.addClient();
        Array.setBoolean(part(part(x, "clients"), "leases"), 4, true);
        CHECK.is("claimants(0), spoilt", x.claimants(0), 2);
        CHECK.is("isOneOrder() with two claimants", x.isOneOrder(), false);
    }

    private static Object part(Object whole, String name) throws ReflectiveOperationException {
        Field field = whole.getClass().getDeclaredField(name);
        field.setAccessible(true);
        return field.get(whole);
    }

    private static LockQuorum threeEntries() {
        LockQuorum x = new LockQuorum();
        x.addClient();
        x.stand(0);
        x.request(0, 0, 0);
        x.setDown(4, true);
        x.renew(0, 0, 0);
        x.setDown(3, true);
        x.write(0, 0, 0, 5);
        return x;
    }
}
