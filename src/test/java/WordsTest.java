/** Promises 16 to 20: what is asked of words. */
public final class WordsTest {
    private static final int LAST = 597870;
    private static final Check CHECK = new Check("WordsTest");

    public static void main(String[] args) {
        typed();
        word();
        dashed();
        width();
        index();
        CHECK.end();
    }

    private static void typed() {
        Justline t = new Justline();
        t.paragraph(2, 0, 0, 0);
        CHECK.same("nothing", t.typed(0), "");
        Texts.type(t, 0, "aeilmo> tw./ a");
        t.note(0, 0, 1, -1);
        CHECK.same("typed", t.typed(0), "aeilmo>tw./a ");
        CHECK.index(t, "no paragraph", () -> t.typed(1));
        CHECK.index(t, "no paragraph", () -> t.typed(-1));
    }

    private static void word() {
        Justline t = Texts.plain(40, Texts.LEFT, 0, 0, "a ...... malate");
        t.note(0, 2, 1, -1);
        CHECK.same("first", t.word(0, 0), "a");
        CHECK.same("second", t.word(0, 1), "......");
        CHECK.same("last", t.word(0, 2), "malate");
        CHECK.same("none", t.word(0, 3), "");
        CHECK.same("far away", t.word(0, Integer.MAX_VALUE), "");
        t.rub(0, 1);
        CHECK.same("one that was rubbed", t.word(0, 2), "");
        t.rub(0, 1);
        CHECK.same("two that were rubbed", t.word(0, 1) + t.word(0, 2), "");
        t.rub(0, 1);
        CHECK.same("all were rubbed", t.word(0, 0) + t.word(0, 1) + t.word(0, 2) + t.typed(0), "");
        Texts.type(t, 0, "e i l");
        CHECK.argument(t, "below 0", () -> t.word(0, -1));
        CHECK.index(t, "no paragraph", () -> t.word(1, -1));
        CHECK.index(t, "no paragraph", () -> t.word(-1, 0));
    }

    private static void dashed() {
        Justline t = new Justline();
        String[][] due = {{"a", "a"}, {"male", "ma-le"}, {"malate", "ma-la-te"}, {"alate", "ala-te"},
            {"aeilmo", "aei-lmo"}, {"aala", "aa-la"}, {"oalwit", "oa-lwit"}, {"mata", "ma-ta"}, {"eiwe", "ei-we"},
            {"tomo", "to-mo"}, {"toma", "to-ma"}, {"mal", "mal"}, {"amal", "amal"}, {"emaal", "emaal"},
            {"maal.", "maa-l."}, {"ma.le", "ma.le"}, {"allaae", "allaae"}, {"......", "......"}, {"wewewe", "we-we-we"},
            {"iilila", "ii-li-la"}, {"ai", "ai"}};
        for (String[] d : due) {
            CHECK.same(d[0], t.dashed(Texts.code(d[0])), d[1]);
        }
        CHECK.same("first code", t.dashed(1), "a");
        CHECK.same("last code", t.dashed(LAST), "......");
        CHECK.same("code 11", t.dashed(11), "ae");
        CHECK.argument(t, "code 0", () -> t.dashed(0));
        CHECK.argument(t, "code beyond", () -> t.dashed(LAST + 1));
        CHECK.argument(t, "code far below", () -> t.dashed(Integer.MIN_VALUE));
    }

    private static void width() {
        Justline t = new Justline();
        int[] wide = {2, 2, 1, 1, 3, 2, 1, 3, 1};
        for (int sign = 0; sign < 9; sign++) {
            CHECK.same("sign " + sign, t.width(sign + 1), wide[sign]);
        }
        CHECK.same("malate", t.width(Texts.code("malate")), 11);
        CHECK.same("wwwwww", t.width(Texts.code("wwwwww")), 18);
        CHECK.same("last code", t.width(LAST), 6);
        CHECK.argument(t, "code 0", () -> t.width(0));
        CHECK.argument(t, "code beyond", () -> t.width(LAST + 1));
    }

    private static void index() {
        Justline t = new Justline();
        t.set(0, 24);
        t.set(1, 6);
        t.set(3, 0);
        t.paragraph(0, 0, 0, 0);
        Texts.type(t, 0, "a a wwwwww " + Texts.times(5, "wwwwww") + " wwwwwt malate " + Texts.times(6, "wwwwww") + " a");
        // 14 lines: the first one "a a wwwwww", each w.. one, "wwwwwt ma-" is the seventh
        CHECK.same("lines", t.lines(0), 14);
        CHECK.same("pages", t.pages(), 3);
        CHECK.same("on two pages", t.index(1), "0 2");
        CHECK.same("on all", t.index(Texts.code("wwwwww")), "0 1 2");
        CHECK.same("nowhere", t.index(9), "");
        t.note(0, 0, 9, 9);
        CHECK.same("not in notes", t.index(9), "");
        CHECK.argument(t, "code 0", () -> t.index(0));
        CHECK.argument(t, "code beyond", () -> t.index(LAST + 1));
        // a word that is broken between two pages is where it ends
        Justline u = new Justline();
        u.set(0, 24);
        u.set(1, 6);
        u.paragraph(0, 0, 0, 0);
        Texts.type(u, 0, Texts.times(5, "wwwwww") + " tttttt tttttt malate wwwwww wwwwww");
        CHECK.same("the broken line", u.line(0, 5), "tttttt tttttt mala-");
        CHECK.same("ends the page", u.ofLine(0, 5, 8), 0);
        CHECK.same("which ends on the next", u.index(Texts.code("malate")), "1");
    }
}
