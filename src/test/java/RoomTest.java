import java.lang.management.ManagementFactory;

/** LANGUAGE.md, rule 12: what 512 of the dearest calls make stays far below the one room. */
public final class RoomTest {
    // 7.3 million elements of one byte and more; 600,000 objects of 16 bytes and more
    private static final long ROOM = 7_300_000L;
    private static final int CALLS = 512;
    // what full() calls
    private static final int FULL_CALLS = 2 + 12 * 4 + 100;

    private static final com.sun.management.ThreadMXBean MEASURE =
        (com.sun.management.ThreadMXBean) ManagementFactory.getThreadMXBean();

    /** One of the calls that come again and again. */
    private interface Repeated {
        void call(Justline t, int n);
    }

    public static void main(String[] args) {
        Check check = new Check("RoomTest");
        measure(check, "new objects", 1, (t, n) -> {
            if (n % 32 == 0) {
                new Justline();
            }
        });
        measure(check, "digest", 1, (t, n) -> t.digest());
        measure(check, "isSound", 1, (t, n) -> t.isSound());
        measure(check, "page", 1, (t, n) -> t.page(n % 5));
        measure(check, "pageLine", 1, (t, n) -> t.pageLine(n % 5, n % 10));
        measure(check, "keep", 1, (t, n) -> t.keep());
        measure(check, "changed", 1, (t, n) -> t.changed());
        measure(check, "index", 1, (t, n) -> t.index(1 + n));
        measure(check, "even", 1, (t, n) -> t.even(1 + n % 6));
        measure(check, "rivers", 1, (t, n) -> t.rivers(n % 12));
        measure(check, "would", 1, (t, n) -> t.would(n % 12, 1 + n % 99));
        measure(check, "typed", 1, (t, n) -> t.typed(n % 12));
        measure(check, "line", 1, (t, n) -> t.line(n % 12, 0));
        measure(check, "mirrored", 1, (t, n) -> t.mirrored(n % 12, 0));
        measure(check, "retype and page", 2, (t, n) -> {
            t.retype(n % 12, n % 24, 1 + 997 * n);
            t.page(0);
        });
        measure(check, "exception, set and digest", 3, (t, n) -> {
            t.exception(500000 + n, 62);
            t.set(0, 24 + n % 37);
            t.digest();
        });
        check.end();
    }

    private static void measure(Check check, String what, int callsEach, Repeated repeated) {
        Justline warm = full();
        warm.digest();
        repeated.call(warm, 0);
        long before = MEASURE.getThreadAllocatedBytes(Thread.currentThread().getId());
        Justline t = full();
        int many = (CALLS - FULL_CALLS) / callsEach;
        for (int n = 0; n < many; n++) {
            repeated.call(t, n);
        }
        long bytes = MEASURE.getThreadAllocatedBytes(Thread.currentThread().getId()) - before;
        System.out.println("RoomTest: " + what + " makes " + bytes + " bytes");
        check.holds(what + " makes " + bytes + " bytes", bytes < ROOM);
    }

    /** As many words as can be, each broken at each of its places. */
    private static Justline full() {
        Justline t = new Justline();
        t.set(1, 24);
        t.set(4, 1);
        for (int i = 0; i < 12; i++) {
            if (i % 3 == 0) {
                t.item(1 + i % 2, i % 3, 2);
            } else {
                t.paragraph(i % 4, 2, 6, 6);
            }
            t.sow(i, 597869 - 24 * i, 1 + i, 24);
            t.note(i, 0, 597870, 597870);
            t.note(i, 23, 597870, 597870);
        }
        for (int k = 0; k < 100; k++) {
            t.exception(597870 - k, 62);
        }
        return t;
    }
}
