import java.math.BigInteger;
import java.util.ArrayList;
import java.util.List;
import java.util.function.Supplier;

/** Promises 38 to 40: all of it. */
public final class WholeTest {
    private static final Check CHECK = new Check("WholeTest");

    public static void main(String[] args) {
        house();
        houseCounts();
        houseOfTheWay();
        fullHouse();
        isSound();
        soundOfEdges();
        digest();
        CHECK.end();
    }

    private static Justline text() {
        Justline t = new Justline();
        t.set(0, 24);
        t.paragraph(1, Texts.BOTH, 6, 0);
        Texts.type(t, 0, "wwwwww tttttt malate to");
        t.note(0, 0, 1, -1);
        t.note(0, 3, 1, 9);
        t.paragraph(2, 0, 0, 0);
        Texts.type(t, 1, "wwwwww> wwwwww/ a");
        t.note(1, 2, 1, 9);
        t.item(1, 0, Texts.RIGHT);
        Texts.type(t, 2, "malate");
        t.exception(Texts.code("wwwwww"), 0);
        t.exception(5, 0);
        t.stop(3, 3);
        t.knock();
        return t;
    }

    private static void house() {
        Justline t = text();
        // rooms 10, then 16: "wwwwww*" (19), "tttttt malate" (18) is too wide: "tttttt mala-", "te to*"
        CHECK.same("lines", Texts.lines(t, 0), " ".repeat(10) + "wwwwww*|    tttttt mala-|    te to*");
        int bad = 81 + 1000 + 0 + 9;
        int[] due = {3, 8, 3 + 2 + 1, 2, 3, 2, 1, bad, 1, 1};
        for (int k = 0; k <= 9; k++) {
            CHECK.same("house " + k, t.house(k), due[k]);
        }
        CHECK.argument(t, "what -1", () -> t.house(-1));
        CHECK.argument(t, "what 10", () -> t.house(10));
    }

    private static void isSound() {
        CHECK.same("nothing", new Justline().isSound(), true);
        CHECK.same("some", text().isSound(), true);
        for (int align = 0; align < 4; align++) {
            for (int kind = 0; kind <= 4; kind++) {
                Justline t = new Justline();
                t.set(0, 24 + 7 * align);
                t.set(1, 6 + kind);
                for (int i = 0; i < 6; i++) {
                    if (kind == 4) {
                        t.item(1 + i % 3, i % 3, align);
                    } else {
                        t.paragraph(kind, align, i, 6 - i);
                    }
                    t.sow(i, 1000 * kind + i, 34567 + 11 * align, 24);
                    t.note(i, 3 * i, 4711, 2 - 3 * (i % 2));
                }
                CHECK.same("kind " + kind + ", align " + align, t.isSound(), true);
                CHECK.same("asked twice", t.isSound(), true);
            }
        }
    }

    /** Texts at the edges of what isSound() tells: each of them holds. */
    private static void soundOfEdges() {
        String[] words = {"a", "wwwwww wwwwww", "malate malate malate malate", "...... ...... .", "t.t .a m.", "ttttta tttt a t"};
        for (int kind = 0; kind <= 4; kind++) {
            for (int align = 0; align <= 3; align++) {
                Justline t = new Justline();
                t.set(0, 24);
                t.set(1, 6);
                t.set(4, 1);
                t.exception(Texts.code("malate"), 62);
                t.exception(Texts.code("......"), 62);
                for (int i = 0; i < words.length; i++) {
                    if (kind == 4) {
                        t.item(1 + i % 3, i % 3, align);
                    } else {
                        t.paragraph(kind, align, i, 6 - i);
                    }
                    CHECK.same("without WORDS", t.isSound(), true);
                    Texts.type(t, i, words[i]);
                    CHECK.same("with WORDS", t.isSound(), true);
                    t.note(i, 0, 1, -1);
                    CHECK.same("with a NOTE", t.isSound(), true);
                }
                t.move(0, 5);
                t.drop(2);
                CHECK.same("moved and dropped", t.isSound(), true);
                t.set(0, 60);
                CHECK.same("60 wide", t.isSound(), true);
            }
        }
    }

    /** A text that grows by the stages of its making. */
    private static Justline text(int stage) {
        Justline t = text();
        if (stage > 0) {
            t.keep();
            t.stop(20, 1);
            t.type(2, 1, 0);
        }
        if (stage > 1) {
            t.stop(19, 2);
            t.stop(21, 2);
            t.set(4, 1);
            for (int i = 3; i < 8; i++) {
                t.paragraph(0, 2, i - 3, 0);
                t.sow(i, 1, 7381, 24);
            }
        }
        if (stage > 2) {
            otherThanFirstFit(t);
            t.item(1, 1, 0);
            t.type(9, 1, 0);
        }
        return t;
    }

    /** The numbers that are told, in their order, from the answers of all the other calls. */
    private static List<Integer> numbers(Supplier<Justline> maker) {
        List<Integer> all = new ArrayList<>();
        Justline t = maker.get();
        for (int k = 0; k <= 9; k++) {
            all.add(t.house(k));
        }
        for (int i = 0; i < t.house(0); i++) {
            // an object for each PARAGRAPH: it is used for 512 calls
            Justline u = maker.get();
            all.addAll(List.of(u.lines(i), u.badness(i, false), u.badness(i, true), u.fits(i), u.would(i, 2),
                u.rivers(i), u.marker(i).length()));
            for (int n = 0; n < u.lines(i); n++) {
                for (int k = 0; k <= 9; k++) {
                    all.add(u.ofLine(i, n, k));
                }
                all.add(u.line(i, n).length());
            }
        }
        all.add(t.pages());
        for (int n = 0; n < t.pages(); n++) {
            for (int k = 0; k <= 6; k++) {
                all.add(t.ofPage(n, k));
            }
            all.add(t.page(n).length());
        }
        all.addAll(List.of(t.index(1).length(), t.changed().length(), t.even(2), t.nearest(20, true),
            t.nearest(20, false), t.isSound() ? 1 : 0));
        return all;
    }

    /** "d becomes d * 31 + v, which wraps around as a 64-bit integer": with numbers that do not wrap around. */
    private static long wrapped(List<Integer> numbers) {
        BigInteger d = BigInteger.valueOf(6007);
        for (int v : numbers) {
            d = d.multiply(BigInteger.valueOf(31)).add(BigInteger.valueOf(v));
        }
        return d.longValue();
    }

    private static void digest() {
        List<Integer> nothing = new ArrayList<>(java.util.Collections.nCopies(11, 0));
        nothing.addAll(List.of(0, 1, 6, -1, -1, 1));
        CHECK.same("the numbers of nothing", numbers(Justline::new), nothing);
        CHECK.same("nothing", new Justline().digest(), wrapped(nothing));
        CHECK.same("nothing, as it is", new Justline().digest(), -2519076919233629371L);
        for (int stage = 0; stage <= 3; stage++) {
            int made = stage;
            CHECK.same("stage " + stage, text(stage).digest(), wrapped(numbers(() -> text(made))));
        }
        Justline s = text(3);
        CHECK.holds("THE WAY and FIRST FIT differ", s.fits(8) != s.lines(8) && s.badness(8, true) != s.badness(8, false));
        CHECK.same("a MARKER wider than its signs", s.marker(9) + " " + s.ofLine(9, 0, 0), "a. 6");
        Justline t = text(2);
        CHECK.holds("all columns differ", t.even(1) > t.even(2) && t.even(2) > t.even(3));
        CHECK.holds("some pages differ", t.changed().length() > 3);
        CHECK.same("twice", t.digest(), t.digest());
        t.knock();
        CHECK.holds("a knock counts", t.digest() != text(2).digest());
        Justline u = text(2);
        u.keep();
        CHECK.holds("what was kept counts", u.digest() != text(2).digest());
        u.keep();
        CHECK.same("but not how often", u.digest(), kept(text(2)).digest());
    }

    private static Justline kept(Justline t) {
        t.keep();
        return t;
    }

    /** Each number of the house: 0, and one more or less by one call. */
    private static void houseCounts() {
        Justline t = new Justline();
        t.set(0, 24);
        t.paragraph(1, 0, 6, 6);
        CHECK.same("a PARAGRAPH", house(t), "1 0 0 0 0 0 0 0 0 0");
        t.type(0, Texts.code("wwww"), 0);
        // room 10, 12 wide: the last line is TOO WIDE by 2
        CHECK.same("a WORD, a line TOO WIDE", house(t), "1 1 1 1 0 0 0 1004 0 0");
        t.note(0, 0, 1, -1);
        CHECK.same("a NOTE", house(t), "1 1 1 1 1 0 0 1009 0 0");
        t.exception(Texts.code("wwww"), 1 << 2);
        // "ww-" has a gap of 3, and ends within a WORD
        CHECK.same("an EXCEPTION", house(t), "1 1 2 0 1 1 0 " + (9 + 9) + " 0 1");
        t.stop(30, 0);
        CHECK.same("a STOP", house(t), "1 1 2 0 1 1 1 18 0 1");
        t.knock();
        CHECK.same("a knock", house(t), "1 1 2 0 1 1 1 18 1 1");
        t.rub(0, 1);
        CHECK.same("rubbed", house(t), "1 0 0 0 0 1 1 0 1 0");
        t.stop(30, -1);
        t.exception(Texts.code("wwww"), -1);
        CHECK.same("no STOP, no EXCEPTION", house(t), "1 0 0 0 0 0 0 0 1 0");
        t.drop(0);
        CHECK.same("no PARAGRAPH", house(t), "0 0 0 0 0 0 0 0 1 0");
    }

    /** Lines, BADNESS and lines within a WORD are those of THE WAY, where FIRST FIT has others. */
    private static void houseOfTheWay() {
        Justline t = otherThanFirstFit(new Justline());
        CHECK.same("THE WAY", Texts.lines(t, 0), "wwwwww|a twwwww|wwo");
        CHECK.same("FIRST FIT", t.fits(0) * 1000 + t.badness(0, true), 2099);
        CHECK.same("of THE WAY", house(t), "1 4 3 0 0 1 0 61 0 0");
        Justline u = Texts.plain(24, Texts.LEFT, 0, 0, "wwwwww ii i wwww iiii wwwwww");
        CHECK.same("as many lines, but worse", u.fits(0) * 1000 + u.badness(0, true), 3050);
        CHECK.same("of THE WAY, too", house(u), "1 6 3 0 0 0 0 34 0 0");
    }

    /** A first PARAGRAPH of which FIRST FIT has one line less, which ends within a WORD. */
    private static Justline otherThanFirstFit(Justline t) {
        t.set(0, 24);
        t.set(2, 99);
        t.exception(Texts.code("twwwww"), 1 << 1);
        int p = t.paragraph(0, 0, 0, 0);
        Texts.type(t, p, "wwwwww a twwwww wwo");
        return t;
    }

    private static String house(Justline t) {
        StringBuilder all = new StringBuilder();
        for (int what = 0; what <= 9; what++) {
            all.append(what > 0 ? " " : "").append(t.house(what));
        }
        return all.toString();
    }

    /** As much as can be: 12 PARAGRAPHS of 24 WORDS, 2 NOTES each, 59 STOPS. */
    private static void fullHouse() {
        Justline t = new Justline();
        t.set(0, 24);
        t.set(1, 6);
        int wide = Texts.code("wwwwww");
        for (int i = 0; i < 12; i++) {
            t.paragraph(1, 2, 6, 6);
            t.sow(i, wide - 1, 0, 24);
            t.note(i, 11, wide, wide);
            t.note(i, 12, wide, wide);
        }
        for (int x = 1; x <= 59; x++) {
            t.stop(x, 3);
        }
        // room 10: each WORD is 18 wide, two of each 24 have an asterisk
        int bad = 12 * (22 * 1064 + 2 * 1081);
        CHECK.same("full", house(t), "12 288 288 288 24 0 59 " + bad + " 0 0");
        CHECK.same("sound", t.isSound(), true);
        t.exception(wide, 1 << 3);
        // "www-" is just as wide, "www" 1 less, "www*" just as wide
        CHECK.same("all broken", house(t), "12 288 576 0 24 1 59 " + 12 * (24 * 9 + 24 - 2 - 1) + " 0 288");
        CHECK.same("sound", t.isSound(), true);
    }
}
