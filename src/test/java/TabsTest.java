/** Section 4, and what promises 13 and 30 tell of it: the edges of STOPS, FIELDS and TABBED lines. */
public final class TabsTest {
    private static final int NONE = -1;
    private static final int LEFT = 0;
    private static final int RIGHT = 1;
    private static final int MIDDLE = 2;
    private static final int POINT = 3;
    private static final Check CHECK = new Check("TabsTest");

    public static void main(String[] args) {
        noneAtFirst();
        everyPlace();
        greaterThanP();
        smallestOfSome();
        lastPlaces();
        left();
        right();
        middle();
        point();
        firstPoint();
        fieldsOfSomeWords();
        asterisks();
        oneFieldBehindTheOther();
        linesOfWords();
        alignDoesNothing();
        gapAndTooWide();
        noOtherWay();
        nearestStops();
        stopsOfAll();
        CHECK.end();
    }

    private static Justline tabbed(String words) {
        Justline t = new Justline();
        t.paragraph(2, 0, 0, 0);
        Texts.type(t, 0, words);
        return t;
    }

    /** A line of two FIELDS with one STOP. */
    private static String two(String first, String second, int x, int kind) {
        Justline t = tabbed(first + "> " + second);
        t.stop(x, kind);
        return t.line(0, 0);
    }

    private static String at(String first, int wide, int begin, String second) {
        return first + " ".repeat(begin - wide) + second;
    }

    /** "(none at first)": each next FIELD begins at p + 1. */
    private static void noneAtFirst() {
        Justline t = tabbed("a> e> mm> i");
        CHECK.same("p + 1", t.line(0, 0), "a e mm i");
        CHECK.same("no STOP", t.house(6), 0);
        for (int x = 0; x <= 60; x++) {
            CHECK.same("none from " + x, t.nearest(x, true) + t.nearest(x, false), -2);
        }
    }

    /** "STOPS at x 1 to 59": each of them is told, asked for, and taken away. */
    private static void everyPlace() {
        for (int x = 1; x <= 59; x++) {
            Justline t = new Justline();
            CHECK.same("nothing before", t.stop(x, x % 4), NONE);
            CHECK.same("one", t.house(6), 1);
            CHECK.same("there", t.nearest(0, true) + t.nearest(60, false), 2 * x);
            CHECK.same("another kind", t.stop(x, (x + 1) % 4), x % 4);
            CHECK.same("still one", t.house(6), 1);
            CHECK.same("the same kind", t.stop(x, (x + 1) % 4), (x + 1) % 4);
            CHECK.same("away", t.stop(x, NONE), (x + 1) % 4);
            CHECK.same("away again", t.stop(x, NONE), NONE);
            CHECK.same("none", t.house(6), 0);
        }
        Justline t = new Justline();
        int[] wrong = {-1, 0, 60, 61};
        for (int x : wrong) {
            CHECK.argument(t, "x " + x, () -> t.stop(x, LEFT));
            CHECK.argument(t, "none at x " + x, () -> t.stop(x, NONE));
        }
        CHECK.argument(t, "kind -2", () -> t.stop(1, -2));
        CHECK.argument(t, "kind 4", () -> t.stop(59, 4));
    }

    /** "the smallest x greater than p": not one at p. */
    private static void greaterThanP() {
        CHECK.same("at p - 1", two("aa", "t", 3, LEFT), "aa t");
        CHECK.same("at p", two("aa", "t", 4, LEFT), "aa t");
        CHECK.same("at p + 1", two("aa", "t", 5, LEFT), "aa t");
        CHECK.same("at p + 2", two("aa", "t", 6, LEFT), "aa  t");
        Justline t = tabbed("aa> t");
        t.stop(4, LEFT);
        t.stop(9, LEFT);
        CHECK.same("one at p does not count", t.line(0, 0), "aa     t");
        t.stop(5, LEFT);
        CHECK.same("one at p + 1 does", t.line(0, 0), "aa t");
        t.stop(5, RIGHT);
        CHECK.same("and is not left for the next one", t.line(0, 0), "aa t");
        CHECK.same("the first place is never behind a FIELD", two("t", "t", 1, LEFT), "t t");
    }

    private static void smallestOfSome() {
        Justline t = tabbed("a> t");
        t.stop(30, LEFT);
        CHECK.same("one", t.line(0, 0), at("a", 2, 30, "t"));
        t.stop(20, LEFT);
        CHECK.same("two", t.line(0, 0), at("a", 2, 20, "t"));
        t.stop(10, LEFT);
        CHECK.same("three", t.line(0, 0), at("a", 2, 10, "t"));
        t.stop(20, NONE);
        CHECK.same("the second one away", t.line(0, 0), at("a", 2, 10, "t"));
        t.stop(10, NONE);
        CHECK.same("the first one away", t.line(0, 0), at("a", 2, 30, "t"));
    }

    /** The last place of a STOP, with p just ahead of it and at it. */
    private static void lastPlaces() {
        String ahead = "wwwwww wwwwww ";
        CHECK.same("p 56", two(ahead + "wwwwww", "t", 59, LEFT), ahead + "wwwwww   t");
        CHECK.same("p 58", two(ahead + "wwwwww t", "t", 59, LEFT), ahead + "wwwwww t t");
        CHECK.same("p 59", two(ahead + "wwwwww a", "t", 59, LEFT), ahead + "wwwwww a t");
        CHECK.same("p 60", two(ahead + "wwwwww w", "t", 59, LEFT), ahead + "wwwwww w t");
        Justline t = tabbed("t> t> t");
        t.stop(59, LEFT);
        CHECK.same("behind the last place", t.line(0, 0), "t" + " ".repeat(58) + "t t");
        CHECK.same("wider than 60", t.ofLine(0, 0, 0), 62);
        CHECK.same("gap", t.ofLine(0, 0, 3), 40 - 62);
    }

    /** "by LEFT, at x". */
    private static void left() {
        CHECK.same("far", two("a", "wwwwww", 10, LEFT), at("a", 2, 10, "wwwwww"));
        CHECK.same("the widest word before", two("wwwwww", "t", 20, LEFT), at("wwwwww", 18, 20, "t"));
    }

    /** "by RIGHT at x less its WIDTH": to p + 1, and just below it. */
    private static void right() {
        CHECK.same("4", two("a", "ww", 10, RIGHT), at("a", 2, 4, "ww"));
        CHECK.same("p + 1", two("a", "wwt", 10, RIGHT), at("a", 2, 3, "wwt"));
        CHECK.same("p, so p + 1", two("a", "wwa", 10, RIGHT), at("a", 2, 3, "wwa"));
        CHECK.same("below p, so p + 1", two("a", "www", 10, RIGHT), at("a", 2, 3, "www"));
        CHECK.same("below 0, so p + 1", two("a", "wwwwww", 10, RIGHT), at("a", 2, 3, "wwwwww"));
        CHECK.same("it ends at x", two("a", "mit", 59, RIGHT).length(), 59 - 1 - 2);
    }

    /** "by MIDDLE at x less its WIDTH / 2": of an odd one rounded down. */
    private static void middle() {
        CHECK.same("1", two("a", "t", 10, MIDDLE), at("a", 2, 10, "t"));
        CHECK.same("2", two("a", "tt", 10, MIDDLE), at("a", 2, 9, "tt"));
        CHECK.same("3", two("a", "ttt", 10, MIDDLE), at("a", 2, 9, "ttt"));
        CHECK.same("14", two("a", "wwwwo", 10, MIDDLE), at("a", 2, 3, "wwwwo"));
        CHECK.same("15", two("a", "wwwww", 10, MIDDLE), at("a", 2, 3, "wwwww"));
        CHECK.same("16, so p + 1", two("a", "wwwwwt", 10, MIDDLE), at("a", 2, 3, "wwwwwt"));
        CHECK.same("13", two("a", "wwwwt", 10, MIDDLE), at("a", 2, 4, "wwwwt"));
    }

    /** "by POINT at x less the WIDTH of what is ahead of its first point (of all of it without one)". */
    private static void point() {
        CHECK.same("nothing ahead", two("a", ".wwwww", 10, POINT), at("a", 2, 10, ".wwwww"));
        CHECK.same("1 ahead", two("a", "t.wwww", 10, POINT), at("a", 2, 9, "t.wwww"));
        CHECK.same("7 ahead", two("a", "wwt.ww", 10, POINT), at("a", 2, 3, "wwt.ww"));
        CHECK.same("8 ahead, so p + 1", two("a", "wwo.ww", 10, POINT), at("a", 2, 3, "wwo.ww"));
        CHECK.same("6 ahead", two("a", "ww.www", 10, POINT), at("a", 2, 4, "ww.www"));
        CHECK.same("without one", two("a", "ww", 10, POINT), at("a", 2, 4, "ww"));
        CHECK.same("at its end", two("a", "ww.", 10, POINT), at("a", 2, 4, "ww."));
        CHECK.same("without one, too wide", two("a", "wwwwww", 10, POINT), at("a", 2, 3, "wwwwww"));
        CHECK.same("a point alone", two("a", ".", 10, POINT), at("a", 2, 10, "."));
    }

    /** The first point of some: in one WORD, in the second one, and none in the FIELD before or behind. */
    private static void firstPoint() {
        CHECK.same("two in one WORD", two("a", "t.t.", 10, POINT), at("a", 2, 9, "t.t."));
        CHECK.same("six", two("a", "......", 10, POINT), at("a", 2, 10, "......"));
        CHECK.same("in two WORDS", two("a", "tt. t.", 10, POINT), at("a", 2, 8, "tt. t."));
        CHECK.same("in the second WORD", two("a", "tt t.t", 10, POINT), at("a", 2, 6, "tt t.t"));
        CHECK.same("in the third WORD", two("a", "t t .", 10, POINT), at("a", 2, 6, "t t ."));
        CHECK.same("in the FIELD before", two("a.", "tt", 10, POINT), at("a.", 3, 8, "tt"));
        Justline t = tabbed("a> tt> .");
        t.stop(10, POINT);
        CHECK.same("in the FIELD behind", t.line(0, 0), "a" + " ".repeat(6) + "tt .");
    }

    /** "a FIELD is its WORDS with one blank between". */
    private static void fieldsOfSomeWords() {
        CHECK.same("the first one at 0", two("t t t", "t", 10, LEFT), at("t t t", 5, 10, "t"));
        CHECK.same("RIGHT", two("a", "t tt t", 10, RIGHT), at("a", 2, 4, "t tt t"));
        CHECK.same("RIGHT, p + 1", two("a", "t tt tt", 10, RIGHT), at("a", 2, 3, "t tt tt"));
        CHECK.same("MIDDLE", two("a", "t tt t", 10, MIDDLE), at("a", 2, 7, "t tt t"));
        CHECK.same("POINT without one", two("a", "t tt t", 10, POINT), at("a", 2, 4, "t tt t"));
        CHECK.same("LEFT", two("a", "t tt t", 10, LEFT), at("a", 2, 10, "t tt t"));
        Justline t = tabbed("t t> t t> t t");
        t.stop(10, RIGHT);
        t.stop(20, RIGHT);
        CHECK.same("each", t.line(0, 0), "t t" + " ".repeat(4) + "t t" + " ".repeat(7) + "t t");
        CHECK.same("one line end ends the FIELD, too", tabbed("t> t/ t").line(0, 1), "t");
    }

    /** The asterisk of a NOTE belongs to the WIDTH of its FIELD. */
    private static void asterisks() {
        int[] due = {10, 7, 9, 7};
        for (int kind = 0; kind <= 3; kind++) {
            Justline t = tabbed("a> tt");
            t.stop(10, kind);
            t.note(0, 1, 1, NONE);
            CHECK.same("in the FIELD, kind " + kind, t.line(0, 0), at("a", 2, due[kind], "tt*"));
        }
        Justline t = tabbed("a> t.");
        t.stop(10, POINT);
        t.note(0, 1, 1, NONE);
        CHECK.same("behind the point", t.line(0, 0), at("a", 2, 9, "t.*"));
        t.note(0, 0, 1, NONE);
        CHECK.same("in the FIELD before", t.line(0, 0), at("a*", 3, 9, "t.*"));
        Justline u = tabbed("a> t .");
        u.stop(10, POINT);
        u.note(0, 1, 1, NONE);
        CHECK.same("ahead of the point", u.line(0, 0), at("a", 2, 7, "t* ."));
        u.stop(4, LEFT);
        u.note(0, 0, 1, NONE);
        CHECK.same("p is with the asterisk", u.line(0, 0), "a* t* .");
    }

    /** "p is the WIDTH of the line so far": with the blanks that were put, and each FIELD from its own p. */
    private static void oneFieldBehindTheOther() {
        Justline t = tabbed("a> e> i> l");
        t.stop(10, LEFT);
        t.stop(12, LEFT);
        t.stop(13, LEFT);
        // e at 10 to 12; 13 is the next one greater than 12; i at 13 to 14; l at 15
        CHECK.same("one after the other", t.line(0, 0), "a" + " ".repeat(8) + "e i l");
        Justline u = tabbed("a> wwwwww> t");
        u.stop(10, LEFT);
        u.stop(20, LEFT);
        u.stop(30, LEFT);
        CHECK.same("one is jumped over", u.line(0, 0), "a" + " ".repeat(8) + "wwwwww" + "  t");
        Justline v = tabbed(Texts.times(23, "t>") + " t");
        CHECK.same("24 FIELDS", v.line(0, 0), Texts.times(24, "t"));
        for (int x = 1; x <= 59; x++) {
            v.stop(x, x % 4);
        }
        CHECK.same("with all STOPS", v.line(0, 0), Texts.times(24, "t"));
    }

    /** "a line for each row of WORDS that line ends part it into". */
    private static void linesOfWords() {
        CHECK.same("none", tabbed("a a a a").lines(0), 1);
        CHECK.same("one", tabbed("a a/ a a").lines(0), 2);
        CHECK.same("the last one does nothing", tabbed("a a/ a a/").lines(0), 2);
        CHECK.same("each", tabbed("a/ a/ a/ a").lines(0), 4);
        Justline t = tabbed(Texts.times(24, "a/"));
        CHECK.same("24", t.lines(0), 24);
        for (int n = 0; n < 24; n++) {
            CHECK.same("first and last word", t.ofLine(0, n, 1) * 100 + t.ofLine(0, n, 2), 101 * n);
        }
        CHECK.index(t, "the 25th", () -> t.line(0, 24));
        Justline u = tabbed("malate/ malate");
        u.exception(Texts.code("malate"), 62);
        CHECK.same("no PIECES", Texts.lines(u, 0), "malate|malate");
        CHECK.same("none ends within a WORD", u.house(9), 0);
        CHECK.same("a line is as long as it is", tabbed(Texts.times(24, "wwwwww")).lines(0), 1);
    }

    private static void alignDoesNothing() {
        for (int align = 0; align <= 3; align++) {
            Justline t = new Justline();
            t.paragraph(2, align, 6, 6);
            t.stop(20, RIGHT);
            Texts.type(t, 0, "a a> tt/ e e");
            CHECK.same("align " + align, Texts.lines(t, 0), "a a" + " ".repeat(13) + "tt|e e");
        }
    }

    /** "it is TOO WIDE, if that is below 0; BADNESS is 0". */
    private static void gapAndTooWide() {
        Justline t = tabbed("wwwwww wo");
        t.set(0, 25);
        CHECK.same("a gap of 1", t.ofLine(0, 0, 3) * 10 + t.house(3), 10);
        t.set(0, 24);
        CHECK.same("a gap of 0", t.ofLine(0, 0, 3) * 10 + t.house(3), 0);
        t.retype(0, 1, Texts.code("ww"));
        CHECK.same("a gap of -1", t.ofLine(0, 0, 3), -1);
        CHECK.same("is TOO WIDE", t.house(3), 1);
        CHECK.same("no badness", t.badness(0, false) + t.badness(0, true) + t.house(7), 0);
        CHECK.same("its text is whole", t.line(0, 0), "wwwwww ww");
        t.type(0, 7, 2);
        t.type(0, 7, 0);
        CHECK.same("one of two", t.house(3), 1);
        CHECK.same("sound", t.isSound(), true);
    }

    /** "THE WAY and FIRST FIT are these lines, and there is no other WAY." */
    private static void noOtherWay() {
        Justline t = tabbed("a a/ a/ a");
        for (int lines = 1; lines <= 99; lines++) {
            CHECK.same("would " + lines, t.would(0, lines), lines == 3 ? 0 : NONE);
        }
        CHECK.same("first fit", t.fits(0), 3);
        t.rub(0, 24);
        CHECK.same("without words", t.would(0, 1), NONE);
        CHECK.same("no lines", t.fits(0), 0);
    }

    /** nearest(): "from there on (that one, too)", 0 to 60. */
    private static void nearestStops() {
        Justline t = new Justline();
        t.stop(20, LEFT);
        t.stop(40, POINT);
        int[][] due = {{0, 20, NONE}, {19, 20, NONE}, {20, 20, 20}, {21, 40, 20}, {39, 40, 20}, {40, 40, 40},
            {41, NONE, 40}, {60, NONE, 40}};
        for (int[] d : due) {
            CHECK.same("up from " + d[0], t.nearest(d[0], true), d[1]);
            CHECK.same("down from " + d[0], t.nearest(d[0], false), d[2]);
        }
        t.stop(1, LEFT);
        t.stop(59, LEFT);
        CHECK.same("the first place from 0", t.nearest(0, true), 1);
        CHECK.same("from itself", t.nearest(1, true) + t.nearest(1, false), 2);
        CHECK.same("none below it", t.nearest(0, false), NONE);
        CHECK.same("the last place from 60", t.nearest(60, false), 59);
        CHECK.same("from itself", t.nearest(59, true) + t.nearest(59, false), 118);
        CHECK.same("none above it", t.nearest(60, true), NONE);
        CHECK.argument(t, "-1", () -> t.nearest(-1, true));
        CHECK.argument(t, "-1 down", () -> t.nearest(-1, false));
        CHECK.argument(t, "61", () -> t.nearest(61, true));
        CHECK.argument(t, "61 down", () -> t.nearest(61, false));
    }

    private static void stopsOfAll() {
        Justline t = new Justline();
        for (int x = 1; x <= 59; x++) {
            t.stop(x, x % 4);
            CHECK.same("how many", t.house(6), x);
        }
        for (int x = 0; x <= 60; x++) {
            CHECK.same("up", t.nearest(x, true), x == 0 ? 1 : x == 60 ? NONE : x);
            CHECK.same("down", t.nearest(x, false), x == 0 ? NONE : x == 60 ? 59 : x);
        }
    }
}
