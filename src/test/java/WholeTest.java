/** Promises 38 to 40: all of it. */
public final class WholeTest {
    private static final Check CHECK = new Check("WholeTest");

    public static void main(String[] args) {
        house();
        isSound();
        digest();
        CHECK.end();
    }

    private static Justline text() {
        Justline t = new Justline();
        t.set(0, 24);
        t.paragraph(1, Texts.BOTH, 6, 0);
        Texts.type(t, 0, "wwwwww tttttt malate to");
        t.note(0, 0, 1, -1);
        t.note(0, 3, 1, 9);
        t.paragraph(2, 0, 0, 0);
        Texts.type(t, 1, "wwwwww> wwwwww/ a");
        t.note(1, 2, 1, 9);
        t.item(1, 0, Texts.RIGHT);
        Texts.type(t, 2, "malate");
        t.exception(Texts.code("wwwwww"), 0);
        t.exception(5, 0);
        t.stop(3, 3);
        t.knock();
        return t;
    }

    private static void house() {
        Justline t = text();
        // rooms 10, then 16: "wwwwww*" (19), "tttttt malate" (18) is too wide: "tttttt mala-", "te to*"
        CHECK.same("lines", Texts.lines(t, 0), " ".repeat(10) + "wwwwww*|    tttttt mala-|    te to*");
        int bad = 81 + 1000 + 0 + 9;
        int[] due = {3, 8, 3 + 2 + 1, 2, 3, 2, 1, bad, 1, 1};
        for (int k = 0; k <= 9; k++) {
            CHECK.same("house " + k, t.house(k), due[k]);
        }
        CHECK.argument(t, "what -1", () -> t.house(-1));
        CHECK.argument(t, "what 10", () -> t.house(10));
    }

    private static void isSound() {
        CHECK.same("nothing", new Justline().isSound(), true);
        CHECK.same("some", text().isSound(), true);
        for (int align = 0; align < 4; align++) {
            for (int kind = 0; kind <= 4; kind++) {
                Justline t = new Justline();
                t.set(0, 24 + 7 * align);
                t.set(1, 6 + kind);
                for (int i = 0; i < 6; i++) {
                    if (kind == 4) {
                        t.item(1 + i % 3, i % 3, align);
                    } else {
                        t.paragraph(kind, align, i, 6 - i);
                    }
                    t.sow(i, 1000 * kind + i, 34567 + 11 * align, 24);
                    t.note(i, 3 * i, 4711, 2 - 3 * (i % 2));
                }
                CHECK.same("kind " + kind + ", align " + align, t.isSound(), true);
                CHECK.same("asked twice", t.isSound(), true);
            }
        }
    }

    /** From the answers of all the other calls, in the order that is told. */
    private static long byHand(Justline t) {
        long d = 6007;
        for (int k = 0; k <= 9; k++) {
            d = d * 31 + t.house(k);
        }
        for (int i = 0; i < t.house(0); i++) {
            int[] of = {t.lines(i), t.badness(i, false), t.badness(i, true), t.fits(i), t.would(i, 2), t.rivers(i),
                t.marker(i).length()};
            for (int v : of) {
                d = d * 31 + v;
            }
            for (int n = 0; n < t.lines(i); n++) {
                for (int k = 0; k <= 9; k++) {
                    d = d * 31 + t.ofLine(i, n, k);
                }
                d = d * 31 + t.line(i, n).length();
            }
        }
        d = d * 31 + t.pages();
        for (int n = 0; n < t.pages(); n++) {
            for (int k = 0; k <= 6; k++) {
                d = d * 31 + t.ofPage(n, k);
            }
            d = d * 31 + t.page(n).length();
        }
        int[] last = {t.index(1).length(), t.changed().length(), t.even(2), t.nearest(20, true), t.nearest(20, false),
            t.isSound() ? 1 : 0};
        for (int v : last) {
            d = d * 31 + v;
        }
        return d;
    }

    private static void digest() {
        CHECK.same("nothing", new Justline().digest(), -2519076919233629371L);
        Justline t = text();
        CHECK.same("some", t.digest(), byHand(t));
        t.keep();
        t.stop(20, 1);
        t.type(2, 1, 0);
        CHECK.same("kept", t.digest(), byHand(t));
        t.stop(19, 2);
        t.stop(21, 2);
        t.set(4, 1);
        for (int i = 3; i < 8; i++) {
            t.paragraph(0, 2, i - 3, 0);
            t.sow(i, 1, 7381, 24);
        }
        CHECK.holds("all columns differ", t.even(1) > t.even(2) && t.even(2) > t.even(3));
        CHECK.holds("some pages differ", t.changed().length() > 3);
        CHECK.same("many pages", t.digest(), byHand(t));
        CHECK.same("twice", t.digest(), byHand(t));
    }
}
