import java.lang.management.ManagementFactory;

/** LANGUAGE.md, rule 12: what 512 of the dearest calls make stays far below the one room. */
public final class RoomTest {
    // 7.3 million elements of one byte and more; 600,000 objects of 16 bytes and more
    private static final long ROOM = 7_300_000L;
    private static final int CALLS = 512;

    private static final com.sun.management.ThreadMXBean MEASURE =
        (com.sun.management.ThreadMXBean) ManagementFactory.getThreadMXBean();

    /** One of the calls that come again and again. */
    private interface Repeated {
        void call(Justline t, int n);
    }

    public static void main(String[] args) {
        Check check = new Check("RoomTest");
        measure(check, "new objects", (t, n) -> {
            if (n % 32 == 0) {
                new Justline();
            }
        });
        measure(check, "digest", (t, n) -> t.digest());
        measure(check, "isSound", (t, n) -> t.isSound());
        measure(check, "page", (t, n) -> t.page(n % t.pages()));
        measure(check, "keep", (t, n) -> t.keep());
        measure(check, "changed", (t, n) -> t.changed());
        measure(check, "index", (t, n) -> t.index(1 + n));
        measure(check, "even", (t, n) -> t.even(1 + n % 6));
        measure(check, "rivers", (t, n) -> t.rivers(n % 12));
        measure(check, "would", (t, n) -> t.would(n % 12, 1 + n % 99));
        measure(check, "typed", (t, n) -> t.typed(n % 12));
        measure(check, "line", (t, n) -> t.line(n % 12, 0));
        measure(check, "retype and page", (t, n) -> {
            t.retype(n % 12, n % 24, 1 + 997 * n);
            t.page(0);
        });
        measure(check, "exception and set", (t, n) -> {
            t.exception(500000 + n, 62);
            t.set(0, 24 + n % 37);
            t.digest();
        });
        check.end();
    }

    private static void measure(Check check, String what, Repeated repeated) {
        Justline warm = full();
        warm.digest();
        repeated.call(warm, 0);
        long before = MEASURE.getThreadAllocatedBytes(Thread.currentThread().getId());
        Justline t = full();
        for (int n = 0; n < CALLS; n++) {
            repeated.call(t, n);
        }
        long bytes = MEASURE.getThreadAllocatedBytes(Thread.currentThread().getId()) - before;
        System.out.println("RoomTest: " + what + " makes " + bytes + " bytes");
        check.holds(what + " makes " + bytes + " bytes", bytes < ROOM);
    }

    /** As many words as can be, each broken at each of its places. */
    private static Justline full() {
        Justline t = new Justline();
        t.set(1, 24);
        t.set(4, 1);
        for (int i = 0; i < 12; i++) {
            if (i % 3 == 0) {
                t.item(1 + i % 2, i % 3, 2);
            } else {
                t.paragraph(i % 4, 2, 6, 6);
            }
            t.sow(i, 597869 - 24 * i, 1 + i, 24);
            t.note(i, 0, 597870, 597870);
            t.note(i, 23, 597870, 597870);
        }
        for (int k = 0; k < 100; k++) {
            t.exception(597870 - k, 62);
        }
        return t;
    }
}
