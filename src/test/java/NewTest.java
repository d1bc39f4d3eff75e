/** Promise 1: a new object. */
public final class NewTest {
    private static final Check CHECK = new Check("NewTest");

    public static void main(String[] args) {
        nothingThere();
        toldSettings();
        linesAre40Wide();
        pagesHave12Lines();
        breaksCost9();
        oneEmptyLine();
        noLineAhead();
        newOnesAreAlike();
        CHECK.end();
    }

    private static void nothingThere() {
        Justline t = new Justline();
        for (int what = 0; what <= 9; what++) {
            CHECK.same("house " + what, t.house(what), 0);
        }
        CHECK.same("pages", t.pages(), 0);
        CHECK.same("changed", t.changed(), "?");
        for (int columns = 1; columns <= 6; columns++) {
            CHECK.same("even", t.even(columns), 6);
        }
        CHECK.same("index", t.index(1), "");
        for (int x = 0; x <= 60; x++) {
            CHECK.same("no STOP up from " + x, t.nearest(x, true), -1);
            CHECK.same("no STOP down from " + x, t.nearest(x, false), -1);
        }
        CHECK.same("isSound", t.isSound(), true);
        CHECK.same("by the rule", t.dashed(Texts.code("malate")), "ma-la-te");
        CHECK.index("no paragraph", () -> t.lines(0));
        CHECK.index("no paragraph to drop", () -> t.drop(0));
        CHECK.index("no paragraph to move", () -> t.move(0, 0));
        CHECK.index("no paragraph to type in", () -> t.type(0, 1, 0));
        CHECK.index("no paragraph to sow in", () -> t.sow(0, 0, 0, 1));
        CHECK.index("no page", () -> t.page(0));
        CHECK.index("of no page", () -> t.ofPage(0, 0));
        CHECK.same("no pages to keep", t.keep(), 0);
        CHECK.same("the first knock", t.knock(), 1);
        CHECK.same("the first paragraph", t.paragraph(0, 0, 0, 0), 0);
    }

    /** As set() answers "that before". */
    private static void toldSettings() {
        Justline t = new Justline();
        CHECK.same("width", t.set(0, 24), 40);
        CHECK.same("height", t.set(1, 6), 12);
        CHECK.same("break cost", t.set(2, 0), 9);
        CHECK.same("skip", t.set(3, 0), 1);
        CHECK.same("head lines", t.set(4, 1), 0);
    }

    private static Justline plain(String words) {
        Justline t = new Justline();
        t.paragraph(0, 0, 0, 0);
        Texts.type(t, 0, words);
        return t;
    }

    private static void linesAre40Wide() {
        CHECK.same("18 + 1 + 18 + 1 + 2", plain("wwwwww wwwwww a").lines(0), 1);
        CHECK.same("no gap", plain("wwwwww wwwwww a").ofLine(0, 0, 3), 0);
        CHECK.same("18 + 1 + 18 + 1 + 3", plain("wwwwww wwwwww m").lines(0), 2);
    }

    private static void pagesHave12Lines() {
        Justline t = plain(Texts.times(24, "wwwwww"));
        CHECK.same("12 lines", t.lines(0), 12);
        CHECK.same("a page", t.pages(), 1);
        t.paragraph(1, 0, 0, 0);
        t.type(1, 1, 0);
        CHECK.same("more", t.pages(), 2);
        t.move(1, 0);
        t.note(0, 0, 1, -1);
        CHECK.same("with NOTES", t.ofPage(0, 6), 12);
    }

    private static void breaksCost9() {
        Justline t = plain("wwwwww wwwwt malate");
        CHECK.same("18 + 1 + 13 + 1 + 6", t.line(0, 0), "wwwwww wwwwt ma-");
        CHECK.same("a gap of 1 and a break", t.badness(0, false), 1 + 9);
    }

    private static void oneEmptyLine() {
        Justline t = plain("a");
        t.paragraph(0, 0, 0, 0);
        t.type(1, 2, 0);
        CHECK.same("one between", t.page(0), "a||e");
    }

    private static void noLineAhead() {
        CHECK.same("lines alone", plain("a").page(0), "a");
    }

    /** What one does to an object changes no other one. */
    private static void newOnesAreAlike() {
        String before = Texts.state(new Justline());
        Justline t = new Justline();
        t.set(0, 24);
        t.set(1, 6);
        t.set(2, 99);
        t.set(3, 2);
        t.set(4, 1);
        t.stop(20, 1);
        t.exception(1, 0);
        t.knock();
        t.paragraph(0, 0, 0, 0);
        t.sow(0, 7, 7, 24);
        t.keep();
        CHECK.same("a new one", Texts.state(new Justline()), before);
        CHECK.same("nothing kept", new Justline().changed(), "?");
        CHECK.same("the same digest", new Justline().digest(), -2519076919233629371L);
        toldSettings();
    }
}
