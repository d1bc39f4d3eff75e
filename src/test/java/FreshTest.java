import java.util.ArrayList;
import java.util.List;

/**
 * All promises: what one asks is answered from how all is now, whether one asked ahead of the change or
 * not, and whichever question comes first behind it.
 */
public final class FreshTest {
    /** One call. */
    private interface Call {
        Object of(Justline t);
    }

    private static final Check CHECK = new Check("FreshTest");
    private static final List<Call> CHANGES = List.of(
        t -> t.paragraph(0, 2, 6, 0),
        t -> t.item(1, 1, 2),
        t -> t.type(0, 66430, 2),
        t -> t.sow(0, 1, 4711, 7),
        t -> t.rub(0, 1),
        t -> t.rub(1, 24),
        t -> t.retype(1, 2, 597870),
        t -> t.note(1, 4, 597870, 66430),
        t -> t.drop(0),
        t -> t.drop(3),
        t -> t.move(2, 5),
        t -> t.move(5, 0),
        t -> t.set(0, 24),
        t -> t.set(1, 7),
        t -> t.set(2, 99),
        t -> t.set(3, 2),
        t -> t.set(4, 1),
        t -> t.exception(Texts.code("malate"), 62),
        t -> t.exception(Texts.code("toto"), -1),
        t -> t.stop(19, 1),
        t -> t.stop(9, -1),
        t -> t.keep(),
        t -> t.knock());

    public static void main(String[] args) {
        List<Call> asks = asks();
        for (int c = 0; c < CHANGES.size(); c++) {
            Call change = CHANGES.get(c);
            for (int k = 0; k < asks.size(); k++) {
                Call ask = asks.get(k);
                Justline settled = text();
                settled.digest();
                Justline fresh = text();
                CHECK.same("change " + c, Check.outcome(() -> change.of(settled)),
                    Check.outcome(() -> change.of(fresh)));
                CHECK.same("change " + c + ", question " + k, Check.outcome(() -> ask.of(settled)),
                    Check.outcome(() -> ask.of(fresh)));
                CHECK.same("change " + c + ", digest behind question " + k, settled.digest(), fresh.digest());
            }
        }
        shows();
        CHECK.end();
    }

    /** Each change but keep and knock is seen in the texts that one asked for before. */
    private static void shows() {
        for (int c = 0; c < CHANGES.size() - 2; c++) {
            Justline t = text();
            String before = Texts.state(t);
            CHANGES.get(c).of(t);
            CHECK.holds("change " + c + " shows", !Texts.state(t).equals(before));
        }
    }

    private static Justline text() {
        Justline t = new Justline();
        t.set(0, 30);
        t.set(1, 8);
        t.paragraph(3, 3, 0, 0);
        Texts.type(t, 0, "toto wit");
        t.paragraph(0, 2, 3, 1);
        Texts.type(t, 1, "tttttt malate a toto malate wwt tttttt malate malate tototo i malate .m malate toto a");
        t.item(1, 0, 0);
        Texts.type(t, 2, "malate toto wwwwww mmmmmm malate a");
        t.item(1, 2, 1);
        Texts.type(t, 3, "malate toto wwwwww mmmmmm malate malate");
        t.paragraph(2, 0, 0, 0);
        t.stop(9, 1);
        t.stop(21, 3);
        Texts.type(t, 4, "a> mi> tt.t/ toto> mam> t./ a> e> w/ a");
        t.paragraph(1, 2, 4, 0);
        Texts.type(t, 5, "malate toto wwwwww mmmmmm malate tttttt malate a toto malate");
        t.note(1, 0, 1, 2);
        t.note(4, 1, 597870, -1);
        t.exception(Texts.code("toto"), 14);
        t.keep();
        t.retype(5, 0, Texts.code("alatea"));
        return t;
    }

    private static List<Call> asks() {
        List<Call> asks = new ArrayList<>(List.of(
            t -> t.typed(0), t -> t.word(1, 2), t -> t.dashed(Texts.code("malate")), t -> t.width(66430),
            t -> t.index(1), t -> t.index(Texts.code("malate")), t -> t.pages(), t -> t.changed(),
            t -> t.isSound(), t -> t.nearest(10, true), t -> t.nearest(10, false),
            t -> t.page(0), t -> t.page(1), t -> t.pageLine(0, 0), t -> t.pageLine(1, 4), t -> t.keep()));
        for (int i = 0; i < 7; i++) {
            int p = i;
            asks.add(t -> t.lines(p));
            asks.add(t -> t.line(p, 0));
            asks.add(t -> t.mirrored(p, 1));
            asks.add(t -> t.badness(p, false));
            asks.add(t -> t.badness(p, true));
            asks.add(t -> t.fits(p));
            asks.add(t -> t.would(p, 3));
            asks.add(t -> t.rivers(p));
            asks.add(t -> t.marker(p));
            asks.add(t -> t.notePage(p, 1));
            asks.add(t -> t.ofPage(0, p));
            asks.add(t -> t.ofPage(1, p));
            asks.add(t -> t.even(1 + p % 6));
        }
        for (int k = 0; k < 10; k++) {
            int what = k;
            asks.add(t -> t.ofLine(1, 1, what));
            asks.add(t -> t.ofLine(3, 0, what));
            asks.add(t -> t.house(what));
        }
        return asks;
    }
}
