/** Section 3, and what promises 21 to 28 tell of it: the edges of WAYS, their BADNESS, the texts of lines, RIVERS. */
public final class WaysTest {
    private static final Check CHECK = new Check("WaysTest");

    public static void main(String[] args) {
        onePieceTooWide();
        justAsWide();
        dashAtTheEdge();
        lastLine();
        badnessOfALine();
        breakCosts();
        ties();
        tieInTheSecondLine();
        tieOfPieces();
        firstFit();
        manyLines();
        withoutWords();
        rightAndMiddle();
        bothSharesOut();
        bothLeavesAlone();
        blanks();
        widestAndNarrowest();
        riversOfThree();
        riversOfEachX();
        riversOfBoth();
        CHECK.end();
    }

    private static Justline quote(int align, int first, int hang, String words) {
        Justline t = new Justline();
        t.set(0, 24);
        t.paragraph(1, align, first, hang);
        Texts.type(t, 0, words);
        return t;
    }

    /** "It is let, if it is not [TOO WIDE], or if it has one PIECE." ROOM is 10 here. */
    private static void onePieceTooWide() {
        Justline t = quote(0, 6, 6, "wwwwww t");
        CHECK.same("alone", t.lines(0), 2);
        CHECK.same("no way with two pieces", t.would(0, 1), -1);
        CHECK.same("one with one each", t.would(0, 2), 64 + 1000);
        CHECK.same("gap below 0", t.ofLine(0, 0, 3), -8);
        CHECK.same("the next one is not too wide", t.house(3), 1);
        Justline u = quote(0, 6, 6, "t wwwwww");
        CHECK.same("behind a narrow one", u.would(0, 1), -1);
        CHECK.same("alone in the last line", u.would(0, 2), 9 * 9 + 64 + 1000);
        Justline v = quote(0, 6, 6, "wwwwww wwwwww");
        CHECK.same("each of two", v.house(3), 2);
        CHECK.same("each alone", v.would(0, 1), -1);
        // a WORD of two PIECES is let with one of them in a line, or with both, if they fit
        Justline w = quote(0, 6, 6, "wwwwww");
        w.exception(Texts.code("wwwwww"), 1 << 5);
        CHECK.same("two pieces, too wide", w.would(0, 1), -1);
        CHECK.same("one too wide with its dash", w.badness(0, false), 36 + 1000 + 9);
        w.exception(Texts.code("wwwwww"), 1 << 3);
        CHECK.same("both just as wide", Texts.lines(w, 0), " ".repeat(10) + "www-|" + " ".repeat(10) + "www");
    }

    /** "TOO WIDE, if the WIDTH of its CONTENT is more than its ROOM": not, if it is as much. */
    private static void justAsWide() {
        Justline t = Texts.plain(24, Texts.LEFT, 0, 0, "wwwwww wo wwwwww");
        CHECK.same("18 + 1 + 5", Texts.lines(t, 0), "wwwwww wo|wwwwww");
        CHECK.same("no gap", t.ofLine(0, 0, 3), 0);
        t.retype(0, 1, Texts.code("ww"));
        CHECK.same("18 + 1 + 6", t.lines(0), 3);
        t.set(0, 25);
        CHECK.same("one more to be told", Texts.lines(t, 0), "wwwwww ww|wwwwww");
        t.note(0, 0, 1, -1);
        CHECK.same("with an asterisk", t.lines(0), 2);
        CHECK.same("it is in the second line", Texts.lines(t, 0), "wwwwww*|ww wwwwww");
    }

    /** "- at the end, if it ends within a WORD": it may be just what is too much. */
    private static void dashAtTheEdge() {
        Justline t = Texts.plain(24, Texts.LEFT, 0, 0, "tttttt tttttt ttmate");
        CHECK.same("24 whole", Texts.lines(t, 0), "tttttt tttttt ttmate");
        t.retype(0, 0, Texts.code("ttttta"));
        CHECK.same("not 25", Texts.lines(t, 0), "ttttta tttttt ttma-|te");
        CHECK.same("23 with the dash", t.ofLine(0, 0, 0), 23);
        t.retype(0, 1, Texts.code("ttttta"));
        CHECK.same("24", t.ofLine(0, 0, 0), 24);
        CHECK.same("no gap", t.ofLine(0, 0, 3), 0);
        t.retype(0, 1, Texts.code("tttttw"));
        CHECK.same("25 with the dash", Texts.lines(t, 0), "ttttta tttttw|ttmate");
        // the last PIECE needs no dash: "ttttta ttttta ma-" is 22 wide, with "ll" instead of it 23
        Justline u = Texts.plain(24, Texts.LEFT, 0, 0, "ttttta ttttta mall");
        CHECK.same("whole", Texts.lines(u, 0), "ttttta ttttta mall");
        CHECK.same("its gap", u.ofLine(0, 0, 3), 24 - 23);
    }

    /** "0 for the last line, if it is not TOO WIDE": whatever its GAP; otherwise as that of others. */
    private static void lastLine() {
        Justline t = Texts.plain(24, Texts.LEFT, 6, 0, "t");
        CHECK.same("a gap of 17", t.ofLine(0, 0, 3), 17);
        CHECK.same("is no badness", t.badness(0, false), 0);
        t.retype(0, 0, Texts.code("wwwwww"));
        CHECK.same("a gap of 0", t.ofLine(0, 0, 3) + t.badness(0, false), 0);
        t.note(0, 0, 1, -1);
        CHECK.same("a gap of -1", t.ofLine(0, 0, 3), -1);
        CHECK.same("squared, and 1000", t.badness(0, false), 1001);
        CHECK.same("by first fit, too", t.badness(0, true), 1001);
        CHECK.same("and by one line", t.would(0, 1), 1001);
        t.type(0, 7, 0);
        CHECK.same("no more the last line", t.badness(0, false), 1001);
        CHECK.same("nor is the last one", t.would(0, 2), 1001);
    }

    /** "GAP * GAP (also below 0 ..)", "1000 more, if it is TOO WIDE". */
    private static void badnessOfALine() {
        String[] words = {"wwwwww", "wwwwwa", "wwwwwt", "wwwww", "wwww", "www", "ww", "w", "t"};
        int[] wide = {18, 17, 16, 15, 12, 9, 6, 3, 1};
        for (int k = 0; k < words.length; k++) {
            // room 16, and what comes behind fills the next line by itself
            Justline t = quote(0, 0, 0, words[k] + " wwwwwt");
            int gap = 16 - wide[k];
            CHECK.same("gap of " + words[k], t.ofLine(0, 0, 3), gap);
            CHECK.same("badness of " + words[k], t.badness(0, false), gap * gap + (gap < 0 ? 1000 : 0));
        }
        Justline u = quote(0, 0, 0, "wwwwww wwwwwa wwwwwt www wwwwww");
        CHECK.same("all lines together", u.badness(0, false), 1004 + 1001 + 0 + 49 + 1004);
        CHECK.same("in the house", u.house(7), u.badness(0, false));
        u.paragraph(1, 0, 0, 0);
        CHECK.same("without words nothing more", u.house(7), u.badness(0, false));
        u.type(1, Texts.code("wwwwwa"), 0);
        CHECK.same("of all PARAGRAPHS", u.house(7), u.badness(0, false) + 1001);
    }

    /** "the BREAK COST more, if it ends within a WORD": 0 and 99, and also if it is TOO WIDE. */
    private static void breakCosts() {
        Justline t = quote(0, 6, 6, "wwwwww");
        t.exception(Texts.code("wwwwww"), (1 << 5) + (1 << 4));
        // "wwww-" is 13, "w-" 4, "w" 3; or "wwwwww" whole by no WAY, as it has three PIECES
        int[] costs = {0, 1, 9, 98, 99};
        for (int cost : costs) {
            t.set(2, cost);
            CHECK.same("three lines at " + cost, t.would(0, 3), 9 + 1000 + cost + 36 + cost);
            CHECK.same("two lines at " + cost, t.badness(0, false), 9 + 1000 + cost);
        }
        // just filled for the cost, or a gap of 7 without a break
        Justline u = Texts.plain(24, Texts.LEFT, 0, 0, "tttttt ttt tttttt malate");
        u.exception(Texts.code("malate"), 1 << 2);
        CHECK.same("a break", Texts.lines(u, 0), "tttttt ttt tttttt ma-|late");
        u.set(2, 99);
        CHECK.same("no break at any cost", Texts.lines(u, 0), "tttttt ttt tttttt|malate");
        CHECK.same("7 * 7", u.badness(0, false), 49);
        CHECK.same("first fit breaks", u.badness(0, true), 0 + 99);
        u.set(2, 49);
        CHECK.same("as dear: the most PIECES", Texts.lines(u, 0), "tttttt ttt tttttt ma-|late");
        u.set(2, 50);
        CHECK.same("dearer by 1", Texts.lines(u, 0), "tttttt ttt tttttt|malate");
    }

    /** "of several the one in which the first line has the most PIECES". */
    private static void ties() {
        Justline t = Texts.plain(24, Texts.LEFT, 0, 0, "www www www wwwwww");
        // 25 + 225 both ways
        CHECK.same("more in the first", Texts.lines(t, 0), "www www|www|wwwwww");
        CHECK.same("as bad", t.badness(0, false), 250);
        t.retype(0, 2, Texts.code("wwwt"));
        CHECK.same("no tie: 25 + 196 against 225 + 16", Texts.lines(t, 0), "www www|wwwt|wwwwww");
        t.retype(0, 2, Texts.code("www"));
        t.retype(0, 0, Texts.code("wwwt"));
        CHECK.same("no tie: 16 + 225 against 196 + 25", Texts.lines(t, 0), "wwwt|www www|wwwwww");
        // the last line is free: all that fits there is as good, so the first one is filled
        Justline u = Texts.plain(24, Texts.LEFT, 0, 0, "tttttt tttttt tttttt tt tt");
        CHECK.same("the first line full", Texts.lines(u, 0), "tttttt tttttt tttttt tt|tt");
    }

    /** "of several of these the second line, and so on". */
    private static void tieInTheSecondLine() {
        Justline t = Texts.plain(24, Texts.LEFT, 0, 0, "wwwwww www www www wwwwww");
        CHECK.same("more in the second", Texts.lines(t, 0), "wwwwww|www www|www|wwwwww");
        Justline u = Texts.plain(24, Texts.LEFT, 0, 0, "wwwwww wwwwww www www www wwwwww");
        CHECK.same("more in the third", Texts.lines(u, 0), "wwwwww|wwwwww|www www|www|wwwwww");
        // two ties one behind the other
        Justline v = Texts.plain(24, Texts.LEFT, 0, 0, "www www www wwwwww www www www wwwwww");
        CHECK.same("twice", Texts.lines(v, 0), "www www|www|wwwwww|www www|www|wwwwww");
        CHECK.same("as bad", v.badness(0, false), 250 + 36 + 250);
    }

    /** PIECES count, not WORDS: a WORD parted may be more. */
    private static void tieOfPieces() {
        Justline t = Texts.plain(24, Texts.LEFT, 0, 0, "tttttt tttttt wwwwww tttttt");
        t.set(2, 0);
        t.exception(Texts.code("wwwwww"), 1 << 3);
        // "tttttt tttttt www-" is 24 wide; then "www tttttt"
        CHECK.same("a broken one", Texts.lines(t, 0), "tttttt tttttt www-|www tttttt");
        t.set(0, 26);
        t.set(2, 99);
        // 4 + 99 against 13 * 13
        CHECK.same("at 99", t.badness(0, false), 103);
        CHECK.same("the break is better", t.lines(0), 2);
    }

    /** "each line .. has as many PIECES as a line that is let can have there". */
    private static void firstFit() {
        Justline t = Texts.plain(24, Texts.LEFT, 0, 0, "wwwwww ii i wwww iiii wwwwww");
        CHECK.same("first fit", t.badness(0, true), 1 + 49);
        CHECK.same("the way", t.badness(0, false), 9 + 25);
        CHECK.same("as many lines", t.fits(0), 3);
        // just filled, and one more
        Justline u = Texts.plain(24, Texts.LEFT, 0, 0, "wwwwww wo ttt");
        CHECK.same("just filled", u.badness(0, true), 0);
        u.retype(0, 1, Texts.code("ww"));
        CHECK.same("one too many", u.badness(0, true), 36);
        CHECK.same("two lines", u.fits(0), 2);
        // a TOO WIDE one alone, then as many as can be
        Justline v = quote(0, 6, 6, "wwwwww t t t t t t wwwwww");
        CHECK.same("too wide ones alone", v.fits(0), 4);
        CHECK.same("9, 81 and two too wide", v.badness(0, true), 1064 + 1 + 81 + 1064);
        CHECK.same("the way shares", v.badness(0, false), 1064 + 25 + 25 + 1064);
        Justline w = Texts.plain(60, Texts.LEFT, 0, 0, Texts.times(24, "t"));
        CHECK.same("47 wide", w.fits(0), 1);
        w.set(0, 47);
        CHECK.same("just", w.fits(0), 1);
        w.set(0, 46);
        CHECK.same("not", w.fits(0), 2);
    }

    /** would(): "with just so many; NONE, if there is none", 1 to 99. */
    private static void manyLines() {
        Justline t = Texts.plain(24, Texts.LEFT, 0, 0, Texts.times(12, "tttttt") + " " + Texts.times(12, "t"));
        CHECK.same("as many as words", t.would(0, 24), 12 * 18 * 18 + 11 * 23 * 23);
        CHECK.same("one more", t.would(0, 25), -1);
        CHECK.same("the way", t.would(0, t.lines(0)), t.badness(0, false));
        CHECK.same("one less than can be", t.would(0, t.fits(0) - 1), -1);
        CHECK.same("one", t.would(0, 1), -1);
        CHECK.same("99", t.would(0, 99), -1);
        Justline u = Texts.plain(24, Texts.LEFT, 0, 0, Texts.times(24, "wwwwww"));
        u.exception(Texts.code("wwwwww"), 62);
        CHECK.holds("99 lines of 144 pieces", u.would(0, 99) > u.badness(0, false));
        Justline v = new Justline();
        v.set(0, 24);
        v.paragraph(1, 2, 6, 6);
        v.sow(0, Texts.code("wwwwww") - 1, 0, 24);
        v.exception(Texts.code("wwwwww"), 62);
        v.note(0, 23, 1, -1);
        // room 10: 144 PIECES, "www-" and "www" of each WORD, at last "www*"
        CHECK.same("lines of 144 pieces", Texts.lines(v, 0).replace(" ", ""), ("www-|www|").repeat(23) + "www-|www*");
        CHECK.same("their badness", v.badness(0, false), 24 * 9 + 23);
        CHECK.same("as first fit", v.badness(0, true), 24 * 9 + 23);
        CHECK.same("as many lines", v.fits(0) * 100 + v.lines(0), 4848);
        CHECK.same("by 48", v.would(0, 48), 24 * 9 + 23);
        CHECK.same("not by 47", v.would(0, 47), -1);
        CHECK.same("the last WORD", v.ofLine(0, 47, 1) * 100 + v.ofLine(0, 47, 2), 2323);
        CHECK.same("one word", Texts.plain(24, 0, 0, 0, "t").would(0, 1), 0);
        CHECK.same("not in two", Texts.plain(24, 0, 0, 0, "t").would(0, 2), -1);
    }

    /** "Without WORDS there are no lines." */
    private static void withoutWords() {
        for (int kind = 0; kind <= 4; kind++) {
            Justline t = new Justline();
            if (kind == 4) {
                t.item(1, 0, 0);
            } else {
                t.paragraph(kind, 2, 0, 0);
            }
            CHECK.same("lines", t.lines(0) + t.fits(0), 0);
            CHECK.same("badness", t.badness(0, false) + t.badness(0, true), 0);
            CHECK.same("would", t.would(0, 1) + t.would(0, 2) + t.would(0, 99), -3);
            CHECK.same("rivers", t.rivers(0), 0);
            CHECK.same("pages", t.pages(), 0);
            CHECK.index(t, "line 0", () -> t.line(0, 0));
            CHECK.index(t, "line 0, mirrored", () -> t.mirrored(0, 0));
            CHECK.index(t, "of line 0", () -> t.ofLine(0, 0, 0));
            CHECK.holds("sound", t.isSound());
            t.type(0, 1, 0);
            CHECK.same("with one", t.lines(0) + t.fits(0) + t.would(0, 1), 2);
            t.rub(0, 1);
            CHECK.same("and without", t.lines(0) + t.fits(0), 0);
        }
    }

    /** "by RIGHT GAP blanks, by MIDDLE GAP / 2 blanks", "if it is not TOO WIDE". */
    private static void rightAndMiddle() {
        String[] words = {"wwwwwt", "wwwww", "wwwwt", "wwwo", "www.", "wwa"};
        for (int k = 0; k < words.length; k++) {
            int gap = new int[] {0, 1, 3, 5, 6, 8}[k];
            String due = words[k];
            Justline r = quote(Texts.RIGHT, 0, 0, due);
            CHECK.same("gap", r.ofLine(0, 0, 3), gap);
            CHECK.same("RIGHT, " + gap, r.line(0, 0), " ".repeat(4 + gap) + due);
            CHECK.same("its width", r.ofLine(0, 0, 0), 20);
            Justline m = quote(Texts.MIDDLE, 0, 0, due);
            CHECK.same("MIDDLE, " + gap, m.line(0, 0), " ".repeat(4 + gap / 2) + due);
            CHECK.same("its gap", m.ofLine(0, 0, 3), gap);
        }
        for (int align = 0; align <= 3; align++) {
            Justline t = quote(align, 0, 0, "wwwwww wwwwwa t");
            CHECK.same("TOO WIDE by align " + align, t.line(0, 0), "    wwwwww");
            CHECK.same("by 1", t.line(0, 1), "    wwwwwa");
        }
    }

    /** GAPS of 0 to 5 for 2 blanks: in a line with an even number, and in one with an odd one. */
    private static void bothSharesOut() {
        String[] third = {"wwwt", "www", "wwo", "wwt", "ww", "wo"};
        int[][] even = {{1, 1}, {2, 1}, {2, 2}, {3, 2}, {3, 3}, {4, 3}};
        int[][] odd = {{1, 1}, {1, 2}, {2, 2}, {2, 3}, {3, 3}, {3, 4}};
        for (int gap = 0; gap <= 5; gap++) {
            String three = "tttttt tttttt " + third[gap];
            Justline t = Texts.plain(24, Texts.BOTH, 0, 0, three + " wwwwww t");
            CHECK.same("gap", t.ofLine(0, 0, 3), gap);
            CHECK.same("even, " + gap, t.line(0, 0), spaced("tttttt", even[gap], third[gap]));
            Justline u = Texts.plain(24, Texts.BOTH, 0, 0, "wwwwww " + three + " wwwwww t");
            CHECK.same("gap", u.ofLine(0, 1, 3), gap);
            CHECK.same("odd, " + gap, u.line(0, 1), spaced("tttttt", odd[gap], third[gap]));
            Justline v = Texts.plain(24, Texts.BOTH, 0, 0, "wwwwww wwwwww " + three + " wwwwww t");
            CHECK.same("even again, " + gap, v.line(0, 2), spaced("tttttt", even[gap], third[gap]));
            CHECK.same("as wide as told", v.ofLine(0, 2, 0), 24);
        }
        // three blanks, 2 left over: the first two, or the last two
        String four = "tttt tttt tttt www";
        Justline w = Texts.plain(26, Texts.BOTH, 0, 0, four + " wwwwww t");
        CHECK.same("gap", w.ofLine(0, 0, 3), 2);
        CHECK.same("the first two", w.line(0, 0), "tttt  tttt  tttt www");
        Justline x = Texts.plain(26, Texts.BOTH, 0, 0, "wwwwww tttttt " + four + " wwwwww t");
        CHECK.same("the last two", x.line(0, 1), "tttt tttt  tttt  www");
    }

    private static String spaced(String word, int[] blanks, String last) {
        return word + " ".repeat(blanks[0]) + word + " ".repeat(blanks[1]) + last;
    }

    /** "but not in the last line, and not if it is TOO WIDE", "(Without such a blank it is as by LEFT.)" */
    private static void bothLeavesAlone() {
        Justline t = Texts.plain(24, Texts.BOTH, 0, 0, "tt tt tt");
        CHECK.same("the last line is the first", t.line(0, 0), "tt tt tt");
        Justline u = Texts.plain(24, Texts.BOTH, 0, 0, "wwwwww tttt wwwwww");
        CHECK.same("shared out", u.line(0, 0), "wwwwww  tttt");
        CHECK.same("the last line", u.line(0, 1), "wwwwww");
        u.rub(0, 1);
        CHECK.same("now the last line", u.line(0, 0), "wwwwww tttt");
        Justline v = quote(Texts.BOTH, 6, 6, "wwwwww wwww www wwwwww");
        CHECK.same("TOO WIDE and alone", Texts.lines(v, 0), " ".repeat(10) + "wwwwww|" + " ".repeat(10) + "wwww|"
            + " ".repeat(10) + "www|" + " ".repeat(10) + "wwwwww");
        // a PIECE and a WORD have a blank between; two PIECES of one WORD have none
        Justline w = Texts.plain(24, Texts.BOTH, 0, 0, "tttttt tttttt malate ttt ww wwwwww");
        // 4 for two blanks in the first line, 7 in the second one
        CHECK.same("a piece first", Texts.lines(w, 0), "tttttt   tttttt   ma-|late    ttt     ww|wwwwww");
        Justline x = quote(Texts.BOTH, 6, 6, "malate wwww");
        CHECK.same("no blank at all", x.line(0, 0), " ".repeat(10) + "ma-");
        CHECK.same("as by LEFT", x.ofLine(0, 0, 3), 4);
        Justline y = new Justline();
        y.set(0, 24);
        y.item(1, 0, Texts.BOTH);
        Texts.type(y, 0, "wwwwww tt wwwwww");
        CHECK.same("that behind a MARKER is none", Texts.lines(y, 0), "1. wwwwww tt|   wwwwww");
        y.retype(0, 1, 7);
        CHECK.same("nor gets any", y.line(0, 0), "1. wwwwww  t");
        y.retype(0, 1, Texts.code("wwww"));
        CHECK.same("also without another one", y.line(0, 0), "1. wwwwww");
    }

    /** "rows of blanks side by side between two WORDS or PIECES of its text (that behind a MARKER is none ..)". */
    private static void blanks() {
        Justline t = Texts.plain(24, Texts.RIGHT, 6, 6, "wwww wwwwww");
        CHECK.same("those ahead are none", t.ofLine(0, 0, 5), 0);
        CHECK.same("widest", t.ofLine(0, 0, 6), -1);
        CHECK.same("narrowest", t.ofLine(0, 0, 7), -1);
        Justline u = new Justline();
        u.item(3, 2, Texts.RIGHT);
        Texts.type(u, 0, "a");
        CHECK.same("that behind a MARKER", u.ofLine(0, 0, 5), 0);
        u.type(0, 1, 0);
        CHECK.same("but between two", u.ofLine(0, 0, 5) * 100 + u.ofLine(0, 0, 6) * 10 + u.ofLine(0, 0, 7), 111);
        Justline v = new Justline();
        v.paragraph(2, 0, 0, 0);
        Texts.type(v, 0, "a");
        CHECK.same("one FIELD", v.ofLine(0, 0, 5), 0);
        v.rub(0, 1);
        Texts.type(v, 0, "a> a> a a");
        CHECK.same("those ahead of each next FIELD", v.ofLine(0, 0, 5), 3);
        v.stop(9, 0);
        CHECK.same("many are one", v.ofLine(0, 0, 5) * 10 + v.ofLine(0, 0, 6), 37);
    }

    /** The widest and the narrowest one may be the first, one between, or the last. */
    private static void widestAndNarrowest() {
        for (int k = 1; k <= 3; k++) {
            Justline t = new Justline();
            t.paragraph(2, 0, 0, 0);
            // "t t t t" with a tab ahead of the k-th one to a STOP at 12
            for (int w = 0; w < 4; w++) {
                t.type(0, 7, w == k - 1 ? 1 : 0);
            }
            t.stop(12, 0);
            CHECK.same("widest at " + k, t.ofLine(0, 0, 6), 12 - (2 * k - 1));
            CHECK.same("narrowest at another", t.ofLine(0, 0, 7), 1);
            CHECK.same("three", t.ofLine(0, 0, 5), 3);
        }
        for (int k = 1; k <= 3; k++) {
            Justline t = new Justline();
            t.paragraph(2, 0, 0, 0);
            for (int w = 0; w < 4; w++) {
                t.type(0, 7, w == k - 1 ? 0 : 1);
            }
            int at = 1;
            for (int w = 1; w <= 3; w++) {
                at += w == k ? 1 : 4;
                t.stop(at, 0);
                at += 1;
            }
            CHECK.same("widest beside " + k, t.ofLine(0, 0, 6), 4);
            CHECK.same("narrowest at " + k, t.ofLine(0, 0, 7), 1);
        }
    }

    /** Lines of "X a", each with one blank, over the WIDTH of X. */
    private static int rivers(int... wides) {
        Justline t = new Justline();
        t.paragraph(2, 0, 0, 0);
        for (int wide : wides) {
            t.type(0, Texts.code("t".repeat(wide)), 0);
            t.type(0, 1, 2);
        }
        CHECK.same("lines", t.lines(0), wides.length);
        return t.rivers(0);
    }

    /** "this line and the two behind it each have one of their BLANKS over x". */
    private static void riversOfThree() {
        CHECK.same("one line", rivers(2), 0);
        CHECK.same("two lines", rivers(2, 2), 0);
        CHECK.same("three lines", rivers(2, 2, 2), 1);
        CHECK.same("four lines", rivers(2, 2, 2, 2), 2);
        CHECK.same("five lines", rivers(2, 2, 2, 2, 2), 3);
        CHECK.same("another x", rivers(2, 2, 3), 0);
        CHECK.same("ahead of it", rivers(3, 2, 2), 0);
        CHECK.same("between", rivers(2, 3, 2, 2), 0);
        CHECK.same("from the second on", rivers(1, 2, 2, 2), 1);
        CHECK.same("to the last but one", rivers(2, 2, 2, 1), 1);
        CHECK.same("from the third on, two", rivers(1, 3, 2, 2), 0);
        CHECK.same("interrupted", rivers(2, 2, 3, 2, 2), 0);
        CHECK.same("and again", rivers(2, 2, 3, 2, 2, 2), 1);
        CHECK.same("two of them", rivers(2, 2, 2, 4, 4, 4), 2);
        Justline t = new Justline();
        t.paragraph(2, 0, 0, 0);
        Texts.type(t, 0, "t a/ t a/ t a/ t a/");
        CHECK.same("asked once", t.rivers(0), 2);
        CHECK.same("asked twice", t.rivers(0), 2);
        t.rub(0, 2);
        CHECK.same("one line less", t.rivers(0), 1);
        t.rub(0, 2);
        CHECK.same("two lines less", t.rivers(0), 0);
        t.rub(0, 4);
        CHECK.same("none any more", t.rivers(0), 0);
        CHECK.same("all of twelve", rivers(6, 6, 6, 6, 6, 6, 6, 6, 6, 6, 6, 6), 10);
    }

    /** "a row of n blanks with the WIDTH p ahead of it is over p to p + n - 1; each x is a RIVER of its own". */
    private static void riversOfEachX() {
        // from 1 to 5, from 5 to 9, and one blank over x
        int[] due = {0, 1, 0};
        for (int k = 0; k < 3; k++) {
            Justline t = new Justline();
            t.paragraph(2, 0, 0, 0);
            t.stop(6, 0);
            t.stop(10, 0);
            Texts.type(t, 0, "t> a/ ttttt> a/");
            // "t" to 6 is over 1 to 5; "ttttt" to 6 is over 5 alone
            t.type(0, Texts.code("t".repeat(4 + k)), 0);
            t.type(0, 1, 0);
            CHECK.same("one blank over " + (4 + k), t.rivers(0), due[k]);
        }
        Justline u = new Justline();
        u.paragraph(2, 0, 0, 0);
        u.stop(9, 0);
        Texts.type(u, 0, "t> a/ tt> a/ ttt> a");
        CHECK.same("over 3 to 8", u.rivers(0), 6);
        u.stop(8, 1);
        // RIGHT: "a" from 6 to 8
        CHECK.same("over 3 to 5", u.rivers(0), 3);
        // two BLANKS of a line
        Justline v = new Justline();
        v.paragraph(2, 0, 0, 0);
        Texts.type(v, 0, "t t t/ t t t/ t t t/ t ttt/");
        CHECK.same("over 1 and 3, then over 1", v.rivers(0), 3);
    }

    /** Blanks shared out are over more than one x; those ahead of a line are over none. */
    private static void riversOfBoth() {
        Justline t = Texts.plain(24, Texts.BOTH, 2, 2, Texts.times(4, "tttttt wwwww") + " tttttt");
        // room 22: each line is "tttttt wwwww", just 22
        CHECK.same("just filled", Texts.lines(t, 0), (("  tttttt wwwww|").repeat(4) + "  tttttt"));
        CHECK.same("one x in four lines", t.rivers(0), 2);
        t.set(0, 26);
        CHECK.same("two more", t.line(0, 0), "  tttttt   wwwww");
        CHECK.same("three x in four lines", t.rivers(0), 6);
        Justline u = Texts.plain(24, Texts.LEFT, 6, 6, Texts.times(6, "wwwwww"));
        CHECK.same("INDENT is none", u.rivers(0), 0);
        Justline v = new Justline();
        v.item(1, 0, 0);
        Texts.type(v, 0, "a");
        CHECK.same("of each PARAGRAPH by itself", v.rivers(0), 0);
    }
}
