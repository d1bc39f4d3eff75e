/** Promises 21 to 30: what is asked of lines. */
public final class LinesTest {
    private static final Check CHECK = new Check("LinesTest");

    public static void main(String[] args) {
        lines();
        line();
        shared();
        quotes();
        items();
        tabs();
        mirrored();
        ofLine();
        badness();
        fits();
        would();
        rivers();
        marker();
        nearest();
        mirroredOfAll();
        wordsOfLines();
        endsWithinAWord();
        pageOfALine();
        notesOfALine();
        CHECK.end();
    }

    private static void lines() {
        Justline t = Texts.plain(24, Texts.LEFT, 2, 1, "wwww wwww");
        CHECK.same("two", t.lines(0), 2);
        CHECK.same("their texts", Texts.lines(t, 0), "  wwww| wwww");
        t.set(0, 40);
        CHECK.same("one", t.lines(0), 1);
        t.rub(0, 2);
        CHECK.same("none", t.lines(0), 0);
        CHECK.index(t, "no paragraph", () -> t.lines(1));
        CHECK.index(t, "no paragraph", () -> t.lines(-1));
        // of equal badness (25 + 225) the one whose first line has more
        Justline u = Texts.plain(24, Texts.LEFT, 0, 0, "www www www wwwwww");
        CHECK.same("most pieces first", Texts.lines(u, 0), "www www|www|wwwwww");
        CHECK.same("of equal badness", u.badness(0, false), 250);
        // the least badness, not the first that fits: 9 + 16 against 1 + 81
        Justline v = Texts.plain(24, Texts.LEFT, 0, 0, "wwwwww ii i wwww iiii wwwwww");
        CHECK.same("the least badness", Texts.lines(v, 0), "wwwwww ii|i wwww iiii|wwwwww");
        CHECK.same("its badness", v.badness(0, false), 9 + 25);
        CHECK.same("first fit", v.badness(0, true), 1 + 49);
    }

    private static void line() {
        Justline t = Texts.plain(24, Texts.LEFT, 0, 0, "tttttt tttttt malate");
        CHECK.same("within a word", Texts.lines(t, 0), "tttttt tttttt mala-|te");
        CHECK.index(t, "line 2", () -> t.line(0, 2));
        CHECK.index(t, "line -1", () -> t.line(0, -1));
        CHECK.index(t, "no paragraph", () -> t.line(1, 0));
        CHECK.index(t, "no paragraph", () -> t.line(-1, 0));
        // the asterisk belongs to the last piece, and has a width
        t.note(0, 2, 1, -1);
        CHECK.same("a note", Texts.lines(t, 0), "tttttt tttttt mala-|te*");
        t.note(0, 0, 1, -1);
        CHECK.same("as wide as can be", Texts.lines(t, 0), "tttttt* tttttt mala-|te*");
        t.retype(0, 1, Texts.code("ttttto"));
        CHECK.same("one more is too wide", Texts.lines(t, 0), "tttttt* ttttto ma-|late*");
        Justline u = Texts.plain(24, Texts.RIGHT, 1, 0, "wwww wwww");
        CHECK.same("RIGHT", Texts.lines(u, 0), " ".repeat(12) + "wwww|" + " ".repeat(12) + "wwww");
        Justline v = Texts.plain(24, Texts.MIDDLE, 1, 0, "wwww wwww");
        // gap 11 and 12
        CHECK.same("MIDDLE", Texts.lines(v, 0), " ".repeat(6) + "wwww|" + " ".repeat(6) + "wwww");
        Justline w = Texts.plain(24, Texts.BOTH, 0, 0, "wwwwwt ma.l wwww");
        CHECK.same("BOTH, just as wide", Texts.lines(w, 0), "wwwwwt ma.l|wwww");
        Justline x = new Justline();
        x.paragraph(0, 0, 0, 0);
        CHECK.index(x, "without words", () -> x.line(0, 0));
    }

    private static void shared() {
        // three lines with 2 blanks between and gaps of 5, then a last one
        Justline t = Texts.plain(24, Texts.BOTH, 0, 0, Texts.times(3, "tttttt ttttt tttttt") + " wwww");
        CHECK.same("BOTH", Texts.lines(t, 0),
            "tttttt    ttttt   tttttt|tttttt   ttttt    tttttt|tttttt    ttttt   tttttt|wwww");
        Justline u = Texts.plain(24, Texts.BOTH, 3, 0, "wwwww wwwwww t wwwwww");
        CHECK.same("no blank to share", u.line(0, 0), "   wwwww");
        Justline v = Texts.plain(24, Texts.BOTH, 0, 0, "ii ii");
        CHECK.same("not the last line", v.line(0, 0), "ii ii");
        Justline w = Texts.plain(24, Texts.BOTH, 0, 0, "tttttt tttttt malate");
        CHECK.same("with a dash", w.line(0, 0), "tttttt  tttttt mala-");
    }

    private static void quotes() {
        Justline t = new Justline();
        t.set(0, 24);
        t.paragraph(1, Texts.LEFT, 6, 0);
        Texts.type(t, 0, "wwwwww wwww. t");
        // rooms 10 and 16: the first word is 8 too wide
        CHECK.same("QUOTE", Texts.lines(t, 0), " ".repeat(10) + "wwwwww|    wwww. t");
        CHECK.same("too wide", t.ofLine(0, 0, 3), -8);
        CHECK.same("its badness", t.badness(0, false), 64 + 1000);
        CHECK.same("house", t.house(3), 1);
        t.rub(0, 2);
        CHECK.same("the last line, too", t.badness(0, false), 64 + 1000);
        Justline u = new Justline();
        u.set(0, 24);
        u.paragraph(1, Texts.RIGHT, 6, 0);
        Texts.type(u, 0, "wwwwww wwww. t");
        CHECK.same("RIGHT, too wide", Texts.lines(u, 0), " ".repeat(10) + "wwwwww|" + " ".repeat(5) + "wwww. t");
        Justline v = new Justline();
        v.set(0, 24);
        v.paragraph(1, Texts.MIDDLE, 0, 0);
        Texts.type(v, 0, "t");
        CHECK.same("MIDDLE", v.line(0, 0), " ".repeat(4 + 7) + "t");
        // too wide by its dash alone, and within a word
        Justline w = new Justline();
        w.set(0, 24);
        w.paragraph(1, Texts.LEFT, 6, 6);
        Texts.type(w, 0, "wwwwaa");
        w.exception(Texts.code("wwwwaa"), 1 << 4);
        CHECK.same("a piece too wide", Texts.lines(w, 0), " ".repeat(10) + "wwww-|" + " ".repeat(10) + "aa");
        CHECK.same("squares, cost and 1000", w.badness(0, false), 9 + 9 + 1000);
    }

    private static void items() {
        Justline t = new Justline();
        t.set(0, 24);
        t.item(2, 1, Texts.LEFT);
        Texts.type(t, 0, "wwwww wwww");
        // indent 3 + 3 + 1: "a." is 3 wide
        CHECK.same("ITEM", Texts.lines(t, 0), "   a. wwwww|       wwww");
        CHECK.same("width", t.ofLine(0, 0, 0), 22);
        CHECK.same("gap", t.ofLine(0, 0, 3), 2);
        CHECK.same("no blanks behind a marker", t.ofLine(0, 0, 5), 0);
        t.item(2, 1, Texts.RIGHT);
        Texts.type(t, 1, "wwww");
        CHECK.same("RIGHT", t.line(1, 0), "   b. " + " ".repeat(6) + "wwww");
        Justline u = new Justline();
        u.set(0, 24);
        for (int i = 0; i < 8; i++) {
            u.item(3, 2, Texts.LEFT);
        }
        Texts.type(u, 7, "wwww wwwwt");
        // indent 6 + 5 + 1 leaves room for 12
        CHECK.same("viii.", Texts.lines(u, 7), "      viii. wwww|            wwwwt");
        CHECK.same("badness", u.badness(7, false), 0 + 1 + 1000);
    }

    private static void tabs() {
        Justline t = new Justline();
        t.paragraph(2, Texts.RIGHT, 6, 6);
        t.stop(10, 0);
        t.stop(20, 1);
        t.stop(30, 2);
        t.stop(40, 3);
        Texts.type(t, 0, "a> e> mm> www> i.t");
        // e at 10, mm from 14 to 20, www from 30 - 4 to 35, i at 39
        CHECK.same("each kind", t.line(0, 0),
            "a" + " ".repeat(8) + "e  mm" + " ".repeat(6) + "www" + " ".repeat(4) + "i.t");
        CHECK.same("one line", t.lines(0), 1);
        t.rub(0, 4);
        Texts.type(t, 0, "e> mmm> i.t");
        // mmm is 9 wide: it begins at 20 - 9 = 11, but p + 1 is 13; then 22 is behind 20
        CHECK.same("p + 1", t.line(0, 0), "a" + " ".repeat(8) + "e mmm" + " ".repeat(7) + "i.t");
        t.rub(0, 4);
        Texts.type(t, 0, "a> ee mm> wwww i.t wwww> tttttt> a/ tttt> a a> e");
        // 10: "ee mm" to 20 (22 is behind it); 30 MIDDLE: 29 wide, 16 at best, so 21 ..
        CHECK.same("fields of some words", t.line(0, 0),
            "a" + " ".repeat(8) + "ee mm" + " wwww i.t wwww" + " tttttt" + " a");
        CHECK.same("the next line", t.line(0, 1), "tttt" + " ".repeat(6) + "a a" + " ".repeat(3) + "e");
        CHECK.same("two lines", t.lines(0), 2);
        CHECK.same("gap", t.ofLine(0, 1, 3), 20);
        CHECK.same("badness", t.badness(0, false) + t.badness(0, true), 0);
        CHECK.same("not as wide as told", t.house(3), 1);
        // POINT: without a point all of it, with an asterisk; else what is ahead of the first one
        Justline u = new Justline();
        u.stop(20, 3);
        u.paragraph(2, 0, 0, 0);
        Texts.type(u, 0, "a> tt/ a> tt. t./ a> .tt/ a> tt .a/ a> ttttt/");
        CHECK.same("no point", u.line(0, 0), "a" + " ".repeat(16) + "tt");
        CHECK.same("first point", u.line(0, 1), "a" + " ".repeat(16) + "tt. t.");
        CHECK.same("point first", u.line(0, 2), "a" + " ".repeat(18) + ".tt");
        CHECK.same("in the second word", u.line(0, 3), "a" + " ".repeat(15) + "tt .a");
        u.note(0, 1, 1, -1);
        CHECK.same("the asterisk counts", u.line(0, 0), "a" + " ".repeat(15) + "tt*");
        CHECK.same("the last line end does nothing", u.lines(0), 5);
        u.stop(20, 2);
        CHECK.same("MIDDLE of 3", u.line(0, 0), "a" + " ".repeat(17) + "tt*");
        u.stop(20, 1);
        CHECK.same("RIGHT", u.line(0, 4), "a" + " ".repeat(13) + "ttttt");
        u.stop(20, -1);
        CHECK.same("no stop", u.line(0, 4), "a ttttt");
        u.stop(2, 0);
        CHECK.same("a stop has to be greater", u.line(0, 4), "a ttttt");
        u.stop(3, 0);
        u.stop(20, 0);
        CHECK.same("by one", u.line(0, 4), "a ttttt");
        u.stop(3, -1);
        u.stop(20, -1);
        u.stop(59, 0);
        CHECK.same("the last place", u.line(0, 4), "a" + " ".repeat(57) + "ttttt");
        u.stop(59, -1);
        u.stop(4, 0);
        CHECK.same("by two", u.line(0, 4), "a  ttttt");
    }

    private static void mirrored() {
        Justline t = Texts.plain(24, Texts.LEFT, 2, 0, "tttttt aeim malate");
        CHECK.same("line", t.line(0, 0), "  tttttt aeim ma-");
        CHECK.same("mirrored", t.mirrored(0, 0), "-am miea tttttt  ");
        CHECK.same("the last one", t.mirrored(0, 1), "etal");
        CHECK.same("nothing changed", t.line(0, 0), "  tttttt aeim ma-");
        CHECK.index(t, "line 2", () -> t.mirrored(0, 2));
        CHECK.index(t, "line -1", () -> t.mirrored(0, -1));
        CHECK.index(t, "no paragraph", () -> t.mirrored(1, 0));
        CHECK.index(t, "no paragraph", () -> t.mirrored(-1, 0));
    }

    private static void ofLine() {
        Justline t = Texts.plain(24, Texts.BOTH, 1, 0, "tttttt ttttt malate aa tttttt");
        t.note(0, 0, 1, -1);
        t.note(0, 2, 1, 2);
        // " tttttt* ttttt mala-" is 1 + 7 + 1 + 5 + 1 + 8 + 1 = 24 wide; "te* aa tttttt" is the last
        CHECK.same("lines", Texts.lines(t, 0), " tttttt* ttttt mala-|te* aa tttttt");
        int[] first = {24, 0, 2, 0, 1, 2, 1, 1, 0, 1};
        int[] last = {4 + 1 + 4 + 1 + 6, 2, 4, 24 - 16, 0, 2, 1, 1, 0, 1};
        for (int k = 0; k < 10; k++) {
            CHECK.same("first, " + k, t.ofLine(0, 0, k), first[k]);
            CHECK.same("last, " + k, t.ofLine(0, 1, k), last[k]);
        }
        Justline u = Texts.plain(24, Texts.BOTH, 0, 0, "tttttt ttttt tttttt tttttt ttttt tttttt wwww");
        CHECK.same("blanks", u.ofLine(0, 1, 5), 2);
        CHECK.same("widest", u.ofLine(0, 1, 6), 4);
        CHECK.same("narrowest", u.ofLine(0, 1, 7), 3);
        CHECK.same("none widest", u.ofLine(0, 2, 6), -1);
        CHECK.same("none narrowest", u.ofLine(0, 2, 7), -1);
        CHECK.argument(t, "what -1", () -> t.ofLine(0, 0, -1));
        CHECK.argument(t, "what 10", () -> t.ofLine(0, 0, 10));
        CHECK.index(t, "line 2", () -> t.ofLine(0, 2, 10));
        CHECK.index(t, "line -1", () -> t.ofLine(0, -1, 0));
        CHECK.index(t, "no paragraph", () -> t.ofLine(1, 0, 0));
        CHECK.index(t, "no paragraph", () -> t.ofLine(-1, 0, 10));
        Justline v = new Justline();
        v.paragraph(2, 0, 0, 0);
        v.stop(10, 0);
        Texts.type(v, 0, "a a> a/ wwwwww");
        v.note(0, 2, 1, -1);
        int[] tabs = {10 + 3, 0, 2, 40 - 13, 0, 2, 5, 1, 0, 1};
        for (int k = 0; k < 10; k++) {
            CHECK.same("tabs, " + k, v.ofLine(0, 0, k), tabs[k]);
        }
        CHECK.same("first word of the next", v.ofLine(0, 1, 1), 3);
        v.stop(20, 1);
        v.stop(30, 0);
        Texts.type(v, 0, "a/ a> a a> a> tttt> t");
        // 8 blanks to 10; "a" ends at 20 and has 3 ahead; 10 to 30; none of the stops is behind tttt
        CHECK.same("some blanks", v.line(0, 2), "a" + " ".repeat(8) + "a a   a" + " ".repeat(10) + "tttt t");
        CHECK.same("how many", v.ofLine(0, 2, 5), 5);
        CHECK.same("the widest of them", v.ofLine(0, 2, 6), 10);
        CHECK.same("the narrowest of them", v.ofLine(0, 2, 7), 1);
        Justline w = Texts.plain(24, Texts.LEFT, 0, 0, Texts.times(14, "wwwwww"));
        CHECK.same("page", w.ofLine(0, 11, 8), 0);
        w.set(1, 6);
        CHECK.same("page", w.ofLine(0, 11, 8), 1);
        CHECK.same("page", w.ofLine(0, 12, 8), 2);
    }

    private static void badness() {
        Justline t = Texts.plain(24, Texts.LEFT, 0, 0, "tttttt tttttt malate");
        CHECK.same("gap and cost", t.badness(0, false), 1 + 9);
        CHECK.same("first fit", t.badness(0, true), 1 + 9);
        t.set(2, 99);
        CHECK.same("gap and cost", t.badness(0, false), 1 + 99);
        t.rub(0, 1);
        CHECK.same("the last line", t.badness(0, false), 0);
        t.rub(0, 2);
        CHECK.same("no words", t.badness(0, false), 0);
        CHECK.same("no words", t.badness(0, true), 0);
        CHECK.index(t, "no paragraph", () -> t.badness(1, true));
        CHECK.index(t, "no paragraph", () -> t.badness(-1, false));
        // a dear break is not taken by THE WAY, but by FIRST FIT
        Justline u = Texts.plain(24, Texts.LEFT, 0, 0, "tttttt wwtttt malate");
        u.set(2, 99);
        CHECK.same("a dear break", Texts.lines(u, 0), "tttttt wwtttt|malate");
        CHECK.same("THE WAY", u.badness(0, false), 7 * 7);
        CHECK.same("FIRST FIT", u.badness(0, true), 0 + 99);
    }

    private static void fits() {
        Justline t = Texts.plain(24, Texts.LEFT, 0, 0, "wwwwww ii i wwww iiii wwwwww");
        CHECK.same("three", t.fits(0), 3);
        t.rub(0, 5);
        CHECK.same("one", t.fits(0), 1);
        t.rub(0, 1);
        CHECK.same("none", t.fits(0), 0);
        CHECK.index(t, "no paragraph", () -> t.fits(1));
        CHECK.index(t, "no paragraph", () -> t.fits(-1));
        // FIRST FIT breaks dearly, and has one line less
        Justline u = Texts.plain(24, Texts.LEFT, 0, 0, "wwwwww a twwwww wwo");
        u.set(2, 99);
        u.exception(Texts.code("twwwww"), 1 << 1);
        CHECK.same("THE WAY", Texts.lines(u, 0), "wwwwww|a twwwww|wwo");
        CHECK.same("its badness", u.badness(0, false), 36 + 25);
        CHECK.same("FIRST FIT", u.fits(0), 2);
        CHECK.same("its badness", u.badness(0, true), 99);
        CHECK.same("by so many lines", u.would(0, 2), 99);
        Justline v = new Justline();
        v.paragraph(2, 0, 0, 0);
        Texts.type(v, 0, "a/ a/ a/");
        CHECK.same("TABBED", v.fits(0), 3);
        Justline w = new Justline();
        w.set(0, 24);
        w.paragraph(1, 0, 6, 0);
        Texts.type(w, 0, "wwwwww wwwwww wwwwww");
        CHECK.same("too wide ones alone", w.fits(0), 3);
        CHECK.same("their badness", w.badness(0, true), 1064 + 1004 + 1004);
    }

    private static void would() {
        Justline t = Texts.plain(24, Texts.LEFT, 0, 0, "tttttt tttttt malate");
        CHECK.same("one", t.would(0, 1), -1);
        CHECK.same("two", t.would(0, 2), 10);
        CHECK.same("three", t.would(0, 3), 355);
        CHECK.same("five", t.would(0, 5), 324 + 324 + (18 * 18 + 9) + (20 * 20 + 9));
        CHECK.same("six", t.would(0, 6), -1);
        CHECK.same("99", t.would(0, 99), -1);
        CHECK.argument(t, "0", () -> t.would(0, 0));
        CHECK.argument(t, "100", () -> t.would(0, 100));
        CHECK.argument(t, "least", () -> t.would(0, Integer.MIN_VALUE));
        CHECK.index(t, "no paragraph", () -> t.would(1, 0));
        CHECK.index(t, "no paragraph", () -> t.would(-1, 1));
        t.rub(0, 24);
        CHECK.same("without words", t.would(0, 1), -1);
        Justline u = new Justline();
        u.paragraph(2, 0, 0, 0);
        CHECK.same("TABBED without words", u.would(0, 1), -1);
        Texts.type(u, 0, "a/ a a");
        CHECK.same("TABBED, one", u.would(0, 1), -1);
        CHECK.same("TABBED, two", u.would(0, 2), 0);
        CHECK.same("TABBED, three", u.would(0, 3), -1);
    }

    private static void rivers() {
        Justline t = new Justline();
        t.paragraph(2, 0, 0, 0);
        Texts.type(t, 0, "a a/ a a/");
        CHECK.same("two lines", t.rivers(0), 0);
        Texts.type(t, 0, "e a/");
        CHECK.same("three lines", t.rivers(0), 1);
        Texts.type(t, 0, "o a/ o a");
        CHECK.same("five lines", t.rivers(0), 3);
        Justline u = new Justline();
        u.paragraph(2, 0, 0, 0);
        u.stop(10, 0);
        Texts.type(u, 0, "a> a/ tttt> a/ aa> a a> a/ w> a");
        // over 2 to 9, 4 to 9, 4 to 9 and 12, 3 to 9: each x of 4 to 9 twice
        CHECK.same("each x", u.rivers(0), 12);
        CHECK.index(u, "no paragraph", () -> u.rivers(1));
        CHECK.index(u, "no paragraph", () -> u.rivers(-1));
        // indents and what RIGHT puts ahead are no blanks
        Justline v = Texts.plain(24, Texts.RIGHT, 0, 3, "wwww wwww wwww wwww");
        CHECK.same("none", v.rivers(0), 0);
        Justline w = Texts.plain(24, Texts.BOTH, 0, 0, Texts.times(3, "tttttt ttttt tttttt") + " wwww");
        // over 6 to 9 and 15 to 17, 6 to 8 and 14 to 17, as the first
        CHECK.same("shared blanks", w.rivers(0), 3 + 3);
    }

    private static void marker() {
        Justline t = new Justline();
        int[] levels = {1, 2, 2, 3, 2, 1, 3, 1};
        String[] due = {"1.", "1.", "2.", "1.", "3.", "2.", "1.", "3."};
        for (int i = 0; i < levels.length; i++) {
            t.item(levels[i], 0, 0);
        }
        for (int i = 0; i < levels.length; i++) {
            CHECK.same("item " + i, t.marker(i), due[i]);
        }
        int[] kinds = {1, 2, 0, 3};
        for (int kind : kinds) {
            Justline u = new Justline();
            u.item(1, 1, 0);
            u.item(2, 2, 0);
            u.paragraph(kind, 0, 0, 0);
            u.item(2, 2, 0);
            u.item(1, 1, 0);
            boolean isOpen = kind == 1 || kind == 2;
            CHECK.same("behind kind " + kind, u.marker(3), isOpen ? "ii." : "i.");
            CHECK.same("behind kind " + kind, u.marker(4), isOpen ? "b." : "a.");
            CHECK.same("no item", u.marker(2), "");
        }
        String[] roman = {"i", "ii", "iii", "iv", "v", "vi", "vii", "viii", "ix", "x", "xi", "xii"};
        for (int style = 0; style <= 2; style++) {
            Justline u = new Justline();
            for (int i = 0; i < 12; i++) {
                u.item(2, style, 0);
                String number = style == 0 ? "" + (i + 1) : style == 1 ? "" + "abcdefghijkl".charAt(i) : roman[i];
                CHECK.same("style " + style, u.marker(i), number + ".");
            }
            u.drop(0);
            CHECK.same("one less", u.marker(10), style == 0 ? "11." : style == 1 ? "k." : "xi.");
        }
        CHECK.index(t, "no paragraph", () -> t.marker(8));
        CHECK.index(t, "no paragraph", () -> t.marker(-1));
    }

    private static void nearest() {
        Justline t = new Justline();
        CHECK.same("none up", t.nearest(0, true), -1);
        CHECK.same("none down", t.nearest(60, false), -1);
        t.stop(1, 0);
        t.stop(30, 3);
        t.stop(59, 1);
        CHECK.same("from 0", t.nearest(0, true), 1);
        CHECK.same("down from 0", t.nearest(0, false), -1);
        CHECK.same("that one", t.nearest(30, true), 30);
        CHECK.same("that one", t.nearest(30, false), 30);
        CHECK.same("up", t.nearest(31, true), 59);
        CHECK.same("down", t.nearest(29, false), 1);
        CHECK.same("up from 60", t.nearest(60, true), -1);
        CHECK.same("down from 60", t.nearest(60, false), 59);
        CHECK.argument(t, "-1", () -> t.nearest(-1, true));
        CHECK.argument(t, "61", () -> t.nearest(61, false));
        CHECK.argument(t, "far", () -> t.nearest(Integer.MAX_VALUE, false));
    }

    /** "from the last sign to the first one": blanks ahead become blanks behind, in each kind of line. */
    private static void mirroredOfAll() {
        Justline t = new Justline();
        t.set(0, 24);
        t.paragraph(0, Texts.RIGHT, 0, 0);
        Texts.type(t, 0, "a");
        CHECK.same("one sign", t.mirrored(0, 0), "a" + " ".repeat(22));
        t.paragraph(2, 0, 0, 0);
        t.stop(9, 0);
        Texts.type(t, 1, "tom> wit/ .");
        t.note(1, 0, 1, -1);
        CHECK.same("TABBED", t.mirrored(1, 0), "tiw  *mot");
        CHECK.same("a point", t.mirrored(1, 1), ".");
        t.item(2, 2, 0);
        Texts.type(t, 2, "aeilmo");
        CHECK.same("an ITEM", t.mirrored(2, 0), "omliea .i   ");
        t.paragraph(0, Texts.BOTH, 2, 0);
        Texts.type(t, 3, "tttttt wwo malate");
        for (int i = 0; i < 4; i++) {
            for (int n = 0; n < t.lines(i); n++) {
                CHECK.same("line " + n + " of " + i, t.mirrored(i, n), new StringBuilder(t.line(i, n)).reverse().toString());
            }
        }
    }

    /** ofLine 1 and 2: "(of which it has a PIECE)": a WORD broken in three is in three lines. */
    private static void wordsOfLines() {
        Justline t = new Justline();
        t.set(0, 24);
        t.paragraph(1, 0, 6, 6);
        Texts.type(t, 0, "t wwwwww t t");
        t.exception(Texts.code("wwwwww"), (1 << 2) + (1 << 4));
        // room 10: two PIECES of the WORD are 12 wide, and more with a dash
        CHECK.same("lines", Texts.lines(t, 0).replace(" ".repeat(10), ""), "t ww-|ww-|ww t t");
        int[][] due = {{0, 1}, {1, 1}, {1, 3}};
        for (int n = 0; n < 3; n++) {
            CHECK.same("first word of " + n, t.ofLine(0, n, 1), due[n][0]);
            CHECK.same("last word of " + n, t.ofLine(0, n, 2), due[n][1]);
        }
        Justline u = Texts.plain(60, Texts.LEFT, 0, 0, Texts.times(24, "t"));
        CHECK.same("all 24 in one", u.ofLine(0, 0, 1) * 100 + u.ofLine(0, 0, 2), 23);
    }

    /** ofLine 4: 1 if it ends within a WORD, 0 if a WORD ends just there, 0 for the last line. */
    private static void endsWithinAWord() {
        Justline t = Texts.plain(24, Texts.LEFT, 0, 0, "tttttt tttttt malate wwwwww wwwwww");
        CHECK.same("lines", Texts.lines(t, 0), "tttttt tttttt mala-|te wwwwww|wwwwww");
        CHECK.same("within", t.ofLine(0, 0, 4), 1);
        CHECK.same("with a WORD that began before", t.ofLine(0, 1, 4), 0);
        CHECK.same("the last line", t.ofLine(0, 2, 4), 0);
        CHECK.same("house", t.house(9), 1);
        t.exception(Texts.code("malate"), 0);
        CHECK.same("no place", t.ofLine(0, 0, 4) + t.house(9), 0);
    }

    /** ofLine 8: the last line of a page and the first one of the next. */
    private static void pageOfALine() {
        Justline t = Texts.plain(24, Texts.LEFT, 0, 0, Texts.times(24, "wwwwww"));
        t.set(1, 6);
        int[] ends = {6, 12, 18, 24};
        for (int n = 0; n < 24; n++) {
            int page = 0;
            while (n >= ends[page]) {
                page++;
            }
            CHECK.same("page of line " + n, t.ofLine(0, n, 8), page);
        }
        t.paragraph(0, 0, 0, 0);
        t.type(1, 1, 0);
        CHECK.same("of another PARAGRAPH", t.ofLine(1, 0, 8), 4);
        t.move(1, 0);
        CHECK.same("ahead", t.ofLine(0, 0, 8), 0);
        // an empty line and four lines behind it
        CHECK.same("pushed over", t.ofLine(1, 3, 8) * 10 + t.ofLine(1, 4, 8), 1);
    }

    /** ofLine 9: none, one, or both of a PARAGRAPH, each in the line where its WORD ends. */
    private static void notesOfALine() {
        Justline t = Texts.plain(24, Texts.LEFT, 0, 0, "a e malate wwwwww");
        CHECK.same("none", t.ofLine(0, 0, 9), 0);
        t.note(0, 1, 1, 2);
        CHECK.same("one", t.ofLine(0, 0, 9), 1);
        t.note(0, 0, 1, -1);
        CHECK.same("two", t.ofLine(0, 0, 9), 2);
        CHECK.same("none in the other", t.ofLine(0, 1, 9), 0);
        CHECK.same("by rising WORDS", t.pageLine(0, 10) + t.pageLine(0, 11), "* a* a e");
        t.retype(0, 1, Texts.code("wwwwww"));
        t.retype(0, 0, Texts.code("ttttta"));
        CHECK.same("each its line", t.ofLine(0, 0, 9) * 10 + t.ofLine(0, 1, 9), 11);
        t.drop(0);
        t.item(1, 0, 0);
        t.type(0, 1, 0);
        CHECK.same("no NOTE of the one that was dropped", t.ofLine(0, 0, 9), 0);
    }
}
