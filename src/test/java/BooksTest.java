/** Section 5, and what promises 31 to 37 tell of it: the edges of pages, NOTES, BAD ends and FORCED pages. */
public final class BooksTest {
    private static final String W = "wwwwww";
    private static final int WIDE = Texts.code(W);
    private static final Check CHECK = new Check("BooksTest");

    public static void main(String[] args) {
        heights();
        lineAhead();
        emptyLines();
        emptyLinesAtTheEdge();
        notesTakeLines();
        noteAsWideAsTold();
        notesOfBrokenWords();
        emptyLinesAheadOfNotes();
        oneLineAlwaysFits();
        firstLines();
        lastButOne();
        badWithNotes();
        heads();
        nothingBehind();
        forcedPages();
        headOfThePage();
        numberOfThePage();
        textsOfAPage();
        evenAtTheEdge();
        evenIsTheSmallest();
        keptAndChanged();
        indexOfPages();
        CHECK.end();
    }

    /** PLAIN PARAGRAPHS with so many lines of one word each, 24 wide, on pages of 6 lines, SKIP 0. */
    private static Justline text(int... lines) {
        Justline t = new Justline();
        t.set(0, 24);
        t.set(1, 6);
        t.set(3, 0);
        for (int i = 0; i < lines.length; i++) {
            t.paragraph(0, 0, 0, 0);
            if (lines[i] > 0) {
                t.sow(i, WIDE - 1, 0, lines[i]);
            }
        }
        return t;
    }

    /** How many lines of PARAGRAPHS each page has, a FORCED one with "!" behind. */
    private static String filled(Justline t) {
        StringBuilder all = new StringBuilder();
        for (int n = 0; n < t.pages(); n++) {
            all.append(n > 0 ? " " : "").append(t.ofPage(n, 0)).append(t.ofPage(n, 5) == 1 ? "!" : "");
        }
        return all.toString();
    }

    private static void head(Justline t, int lines) {
        int i = t.paragraph(3, 0, 0, 0);
        t.sow(i, WIDE - 1, 0, lines);
    }

    private static void plain(Justline t, int lines) {
        int i = t.paragraph(0, 0, 0, 0);
        t.sow(i, WIDE - 1, 0, lines);
    }

    /** "A page has HEIGHT lines at most": 6 and 24, just filled, and by one line more. */
    private static void heights() {
        CHECK.same("no lines", filled(text()), "");
        CHECK.same("no words", filled(text(0, 0)), "");
        CHECK.same("one", filled(text(1)), "1");
        CHECK.same("five", filled(text(2, 2, 1)), "5");
        CHECK.same("six", filled(text(2, 2, 2)), "6");
        CHECK.same("seven", filled(text(2, 2, 2, 1)), "6 1");
        CHECK.same("twelve", filled(text(2, 2, 2, 2, 2, 2)), "6 6");
        CHECK.same("thirteen", filled(text(2, 2, 2, 2, 2, 2, 1)), "6 6 1");
        Justline t = text(6, 6, 6, 6);
        t.set(1, 24);
        CHECK.same("24", filled(t), "24");
        plain(t, 1);
        CHECK.same("25", filled(t), "24 1");
        t.set(1, 23);
        CHECK.same("at 23 the last but one would end it", filled(t), "22 3");
    }

    /** "if HEAD LINES are on, one of these is the line ahead of it". */
    private static void lineAhead() {
        Justline t = text(2, 2, 2, 1);
        t.set(4, 1);
        CHECK.same("five each", filled(t), "5 2");
        CHECK.same("six texts", t.ofPage(0, 6) * 10 + t.ofPage(1, 6), 63);
        t.drop(3);
        CHECK.same("one behind", filled(t), "5 1");
        t.drop(2);
        CHECK.same("four", filled(t), "4");
        plain(t, 1);
        CHECK.same("just five", filled(t), "5");
        t.set(4, 0);
        CHECK.same("off", t.page(0), String.join("|", W, W, W, W, W));
    }

    /** "Between two lines of unlike PARAGRAPHS on one page SKIP empty lines stand." */
    private static void emptyLines() {
        String[] due = {"w|w|w", "w||w|w", "w|||w|w"};
        for (int skip = 0; skip <= 2; skip++) {
            Justline t = text(1, 2);
            t.set(3, skip);
            CHECK.same("SKIP " + skip, t.page(0).replace(W, "w"), due[skip]);
            CHECK.same("how many", t.ofPage(0, 2), skip);
            CHECK.same("texts", t.ofPage(0, 6), 3 + skip);
        }
        Justline u = text(1, 0, 0, 1);
        u.set(3, 2);
        CHECK.same("PARAGRAPHS without lines between", u.page(0).replace(W, "w"), "w|||w");
        Justline v = text(1, 1, 1);
        v.set(1, 7);
        v.set(3, 2);
        CHECK.same("twice", v.page(0).replace(W, "w"), "w|||w|||w");
        CHECK.same("four", v.ofPage(0, 2), 4);
    }

    /** Not ahead of the first line of a page, not behind its last one; with them just full, and one too many. */
    private static void emptyLinesAtTheEdge() {
        Justline t = text(3, 2);
        t.set(3, 1);
        CHECK.same("3 + 1 + 2", filled(t), "5");
        t.set(3, 2);
        CHECK.same("3 + 2 + 1", filled(t), "4 1");
        t.retype(1, 0, 1);
        t.retype(1, 1, 2);
        CHECK.same("they are one line now", t.page(0).replace(W, "w"), "w|w|w|||a e");
        Justline u = text(4, 1);
        u.set(3, 2);
        CHECK.same("4 + 2 + 1", filled(u), "4 1");
        CHECK.same("none ahead of a page", u.page(1), W);
        CHECK.same("none behind one", u.page(0).replace(W, "w"), "w|w|w|w");
        u.set(3, 1);
        CHECK.same("4 + 1 + 1", filled(u), "5");
        Justline v = text(6, 6);
        v.set(3, 2);
        CHECK.same("each its page", v.ofPage(0, 2) * 100 + v.ofPage(1, 2) * 10 + v.pages(), 2);
    }

    /** "A page takes as many lines as can be (with NOTES ..)": a line goes over with its NOTES. */
    private static void notesTakeLines() {
        Justline t = text(2, 2, 1, 1);
        CHECK.same("six", filled(t), "6");
        t.note(3, 0, 1, -1);
        CHECK.same("the last one goes with its NOTE", filled(t), "5 1");
        CHECK.same("no NOTE on the first", t.ofPage(0, 1) * 10 + t.ofPage(1, 1), 1);
        t.drop(2);
        CHECK.same("just full with it", filled(t), "5");
        CHECK.same("its texts", t.page(0).replace(W, "w"), "w|w|w|w|w*|* a");
        Justline u = text(2, 2, 1);
        u.note(0, 0, WIDE, WIDE);
        CHECK.same("a NOTE of two lines", filled(u), "4 1");
        Justline v = text(2, 1, 1, 1);
        v.note(0, 0, 1, -1);
        CHECK.same("5 and 1", filled(v), "5");
        v.note(0, 1, 1, -1);
        CHECK.same("4 and 2", filled(v), "4 1");
        CHECK.same("by rising WORDS", v.page(0).replace(W, "w"), "w*|w*|w|w|* a|* a");
    }

    /** "if the line is not wider than the told WIDTH of lines then, otherwise .. in a line by itself". */
    private static void noteAsWideAsTold() {
        // "* wwww ttttttt..": 2 + 12 + 1 + 9
        String[] others = {"wwo", "www", "wwwt"};
        String[] due = {"w*|||||* wwww wwo", "w*|||||* wwww www", "w*||||* wwww|wwwt"};
        for (int k = 0; k < 3; k++) {
            Justline t = text(1);
            t.note(0, 0, Texts.code("wwww"), Texts.code(others[k]));
            CHECK.same((23 + k) + " wide", t.page(0).replace(W, "w"), due[k]);
            CHECK.same("lines", t.ofPage(0, 1), k < 2 ? 1 : 2);
        }
        Justline t = text(1);
        t.note(0, 0, Texts.code("wwww"), Texts.code("wwwt"));
        t.set(0, 25);
        CHECK.same("25 of 25", t.ofPage(0, 1), 1);
        t.set(0, 24);
        CHECK.same("25 of 24", t.ofPage(0, 1), 2);
        Justline u = text(1);
        u.note(0, 0, WIDE, -1);
        CHECK.same("without a second one", u.ofPage(0, 1), 1);
    }

    /** "the NOTES of all WORDS that end in it": not of one that goes on. */
    private static void notesOfBrokenWords() {
        Justline t = text(5);
        t.rub(0, 24);
        Texts.type(t, 0, W + " tttttt tttttt malate " + W);
        CHECK.same("broken", Texts.lines(t, 0), "wwwwww|tttttt tttttt mala-|te " + W);
        t.note(0, 3, 1, -1);
        CHECK.same("the second line has none", t.ofLine(0, 1, 9), 0);
        CHECK.same("the third one has", t.ofLine(0, 2, 9), 1);
        t.note(0, 2, 1, -1);
        CHECK.same("each its own", t.ofLine(0, 1, 9) * 10 + t.ofLine(0, 2, 9), 11);
    }

    /** "if there are any, empty lines ahead of these, so that the page has HEIGHT lines": 4, 1 and 0 of them. */
    private static void emptyLinesAheadOfNotes() {
        Justline t = text(1);
        t.note(0, 0, 1, -1);
        CHECK.same("four", t.page(0), W + "*|||||* a");
        t.sow(0, WIDE - 1, 0, 1);
        CHECK.same("three", t.page(0).replace(W, "w"), "w*|w||||* a");
        t.sow(0, WIDE - 1, 0, 2);
        CHECK.same("one", t.page(0).replace(W, "w"), "w*|w|w|w||* a");
        t.sow(0, WIDE - 1, 0, 1);
        CHECK.same("none", t.page(0).replace(W, "w"), "w*|w|w|w|w|* a");
        CHECK.same("always HEIGHT", t.ofPage(0, 6), 6);
        t.set(1, 24);
        CHECK.same("also of 24", t.ofPage(0, 6), 24);
        CHECK.same("the last text", t.pageLine(0, 23), "* a");
        CHECK.same("empty ones do not count", t.ofPage(0, 2), 0);
        Justline u = text(8);
        u.note(0, 0, 1, -1);
        CHECK.same("the page without NOTES ends with its lines", u.ofPage(1, 6), u.ofPage(1, 0));
    }

    /** "(One line with its NOTES always fits.)": 6 lines with the line ahead, and two NOTES of two lines. */
    private static void oneLineAlwaysFits() {
        Justline t = text();
        t.set(4, 1);
        t.paragraph(0, 0, 0, 0);
        Texts.type(t, 0, "a a");
        t.note(0, 0, WIDE, WIDE);
        t.note(0, 1, WIDE, WIDE);
        String note = "|* " + W + "|" + W;
        CHECK.same("just", t.page(0), " ".repeat(23) + "1|a* a*" + note + note);
        CHECK.same("one page", filled(t), "1");
        plain(t, 1);
        CHECK.same("one behind it", filled(t), "1 1");
        t.move(1, 0);
        CHECK.same("one ahead of it", filled(t), "1 1");
        CHECK.same("not FORCED", t.ofPage(0, 5) + t.ofPage(1, 5), 0);
    }

    /** "it ends with the first line of a PARAGRAPH of 3 lines or more". */
    private static void firstLines() {
        CHECK.same("of one line", filled(text(5, 1, 2)), "6 2");
        CHECK.same("of two lines", filled(text(5, 2, 2)), "6 3");
        CHECK.same("of three lines", filled(text(5, 3, 2)), "5 5");
        CHECK.same("of four lines", filled(text(5, 4, 2)), "5 6");
        CHECK.same("of 24 lines", filled(text(5, 24)), "5 6 6 6 6");
        CHECK.same("two of four lines", filled(text(4, 4)), "6 2");
        Justline t = text(5);
        t.paragraph(2, 0, 0, 0);
        Texts.type(t, 1, "a/ a/ a");
        CHECK.same("of TABBED", filled(t), "5 3");
        Justline u = text(5);
        u.item(1, 0, 0);
        Texts.type(u, 1, W + " " + W + " " + W);
        CHECK.same("of an ITEM", filled(u), "5 3");
    }

    /** "or with the last but one of such". */
    private static void lastButOne() {
        CHECK.same("two lines have none", filled(text(5, 2)), "6 1");
        CHECK.same("of three lines: it and the first", filled(text(4, 3)), "4 3");
        CHECK.same("of four lines", filled(text(3, 4)), "5 2");
        CHECK.same("of five lines", filled(text(2, 5)), "5 2");
        CHECK.same("of seven lines", filled(text(7)), "5 2");
        CHECK.same("the last but two", filled(text(8)), "6 2");
        CHECK.same("just all of it", filled(text(3, 3, 1)), "6 1");
        CHECK.same("on the second page", filled(text(1, 5, 2, 5)), "6 5 2");
    }

    /** What is given back takes its NOTES and empty lines along. */
    private static void badWithNotes() {
        Justline t = text(2, 1, 3);
        t.note(2, 0, 1, -1);
        // 3 lines, then the first of three with its NOTE, and no more
        CHECK.same("all three", filled(t), "3 3");
        CHECK.same("NOTES", t.ofPage(0, 1) * 10 + t.ofPage(1, 1), 1);
        CHECK.same("the first page has no empty lines", t.ofPage(0, 6), 3);
        CHECK.same("nothing of it", t.notePage(2, 0), 1);
        Justline u = text(3, 3);
        u.set(3, 2);
        CHECK.same("with empty lines", filled(u), "3 3");
        CHECK.same("none of them", u.ofPage(0, 2), 0);
    }

    /** "or with the last line of a HEAD": of 1, 2 and 3 lines. */
    private static void heads() {
        // of three lines the last but one and the first one are given back, too
        String[] due = {"5 2", "5 2", "3 4"};
        for (int lines = 1; lines <= 3; lines++) {
            Justline t = text(3, 3 - lines);
            head(t, lines);
            plain(t, 1);
            CHECK.same("HEAD of " + lines, filled(t), due[lines - 1]);
        }
        Justline t = text(3);
        head(t, 2);
        head(t, 2);
        plain(t, 1);
        CHECK.same("the first line of a HEAD of two may end it", filled(t), "6 2");
        Justline u = text(4);
        head(u, 1);
        head(u, 1);
        plain(u, 1);
        CHECK.same("two HEADS", filled(u), "4 3");
        Justline v = text(2);
        head(v, 1);
        plain(v, 3);
        plain(v, 1);
        CHECK.same("a HEAD and three lines", filled(v), "6 1");
        Justline w = text(3);
        head(w, 1);
        plain(w, 3);
        CHECK.same("first lines, then the HEAD", filled(w), "3 4");
    }

    /** "If there are more behind these": the last page keeps all. */
    private static void nothingBehind() {
        Justline t = text(5);
        head(t, 1);
        CHECK.same("a HEAD at the end", filled(t), "6");
        CHECK.same("a HEAD alone", filled(onlyHeads(1)), "1");
        plain(t, 1);
        CHECK.same("one behind it", filled(t), "5 2");
        t.rub(2, 1);
        CHECK.same("without WORDS it is none", filled(t), "6");
        CHECK.same("sound", t.isSound(), true);
    }

    private static Justline onlyHeads(int many) {
        Justline t = text();
        for (int i = 0; i < many; i++) {
            head(t, 1);
        }
        return t;
    }

    /** "If nothing would stay, it gives nothing back, keeps all that it took, and is FORCED." */
    private static void forcedPages() {
        CHECK.same("six HEADS", filled(onlyHeads(6)), "6");
        CHECK.same("seven HEADS", filled(onlyHeads(7)), "6! 1");
        CHECK.same("twelve HEADS", filled(onlyHeads(12)), "6! 6");
        Justline t = text();
        head(t, 2);
        for (int i = 0; i < 5; i++) {
            head(t, 1);
        }
        CHECK.same("one line may stay", filled(t), "1 6");
        CHECK.same("the first of two", t.ofPage(0, 5), 0);
        // with the line ahead and a NOTE of two lines a page takes the first of three lines alone
        Justline u = text(3);
        u.set(4, 1);
        u.note(0, 0, WIDE, WIDE);
        u.note(0, 1, WIDE, WIDE);
        CHECK.same("a first line alone", filled(u), "1! 2");
        u.set(4, 0);
        CHECK.same("two lines would end with the last but one", filled(u), "2! 1");
        CHECK.same("their texts", u.ofPage(0, 6), 6);
        CHECK.same("sound", u.isSound(), true);
        u.set(1, 7);
        CHECK.same("all of it", filled(u), "3");
        CHECK.same("none of them FORCED", u.ofPage(0, 5), 0);
    }

    private static String ahead(String head, int blanks, String number) {
        return head + " ".repeat(blanks) + number;
    }

    /** "the last HEAD of which a line stands on this page or one before (nothing without one)". */
    private static void headOfThePage() {
        Justline t = text(5, 5);
        t.set(4, 1);
        CHECK.same("nothing", t.pageLine(0, 0), ahead("", 23, "1"));
        t.paragraph(3, 0, 0, 0);
        t.move(2, 1);
        CHECK.same("a HEAD without WORDS is none", t.pageLine(1, 0), ahead("", 23, "2"));
        Texts.type(t, 1, "mit " + W + " a");
        // the HEAD begins the second page, of which it has two lines
        CHECK.same("not that of the next page", t.pageLine(0, 0), ahead("", 23, "1"));
        CHECK.same("this page", t.pageLine(1, 0), ahead("mit", 18, "2"));
        CHECK.same("one before", t.pageLine(2, 0), ahead("mit", 18, "3"));
        t.note(1, 0, 1, -1);
        CHECK.same("without its asterisk", t.pageLine(1, 0), ahead("mit", 18, "2"));
        CHECK.same("which its line has", t.pageLine(1, 1), "mit*");
        t.retype(1, 0, WIDE);
        CHECK.same("the widest", t.pageLine(1, 0), ahead(W, 5, "2"));
        t.exception(WIDE, 62);
        CHECK.same("the WORD whole", t.pageLine(1, 0), ahead(W, 5, "2"));
        Justline u = text(1);
        u.set(4, 1);
        head(u, 2);
        head(u, 1);
        u.retype(2, 0, 1);
        plain(u, 1);
        CHECK.same("the last one of this page", u.pageLine(0, 0), ahead("a", 21, "1"));
        u.retype(1, 0, Texts.code("mot"));
        u.set(3, 2);
        // one line, two empty ones, and the first line of the first HEAD, which gave its second one back
        CHECK.same("one of which a line is here", u.pageLine(0, 0), ahead("mot", 17, "1"));
        CHECK.same("two ends of HEADS, FORCED", u.page(1), ahead("a", 21, "2") + "|" + W + "|||a");
        CHECK.same("nothing would stay", u.ofPage(1, 5), 1);
        u.set(4, 0);
        CHECK.same("off", u.pageLine(0, 0), W);
        // no other KIND has its WORD ahead of a page
        Justline v = new Justline();
        v.set(4, 1);
        head(v, 1);
        for (int kind = 0; kind <= 4; kind++) {
            int i = kind == 4 ? v.item(1, 0, 0) : v.paragraph(kind, 0, 0, 0);
            v.type(i, kind == 3 ? 7 : 1, 0);
            CHECK.same("kind " + kind, v.pageLine(0, 0), kind < 3 ? ahead(W, 21, "1") : ahead("t", 38, "1"));
        }
    }

    /** "the number of the page, counted from 1, so that all is as wide as told". */
    private static void numberOfThePage() {
        Justline t = text(24, 24, 24, 24, 24, 24, 24, 24, 24, 24, 24, 24);
        t.set(4, 1);
        int[] numbers = {1, 2, 9, 10, 11, 50};
        for (int number : numbers) {
            String due = "" + number;
            CHECK.same("page " + number, t.pageLine(number - 1, 0), ahead("", 24 - due.length(), due));
        }
        t.set(0, 60);
        CHECK.same("60 wide", t.pageLine(0, 0), ahead("", 59, "1"));
        t.set(0, 25);
        CHECK.same("25 wide", t.pageLine(11, 0), ahead("", 23, "12"));
        // each WORD in two lines, and five of these on a page
        Justline u = text();
        u.set(4, 1);
        for (int i = 0; i < 12; i++) {
            u.paragraph(1, 0, 6, 6);
            u.sow(i, WIDE - 1, 0, 24);
        }
        u.exception(WIDE, 1 << 3);
        u.set(1, 6);
        CHECK.same("many pages", u.pages() > 100, true);
        CHECK.same("page 99", u.pageLine(98, 0), ahead("", 22, "99"));
        CHECK.same("page 100", u.pageLine(99, 0), ahead("", 21, "100"));
        CHECK.same("page 101", u.pageLine(100, 0), ahead("", 21, "101"));
        CHECK.same("the last page", u.pageLine(u.pages() - 1, 0), ahead("", 21, "" + u.pages()));
    }

    /** pageLine(): each text of a page, with the line ahead, empty ones and NOTES; none beyond. */
    private static void textsOfAPage() {
        Justline t = text(1, 1);
        t.set(3, 1);
        t.set(4, 1);
        t.note(1, 0, 1, -1);
        String[] due = {ahead("", 23, "1"), W, "", W + "*", "", "* a"};
        for (int n = 0; n < due.length; n++) {
            CHECK.same("text " + n, t.pageLine(0, n), due[n]);
        }
        CHECK.same("all of them", t.page(0), String.join("|", due));
        CHECK.index(t, "text 6", () -> t.pageLine(0, 6));
        CHECK.index(t, "text -1", () -> t.pageLine(0, -1));
        int[] of = {2, 1, 1, 0, 0, 0, 6};
        for (int what = 0; what <= 6; what++) {
            CHECK.same("of page, " + what, t.ofPage(0, what), of[what]);
        }
        t.rub(1, 1);
        CHECK.same("two texts", t.page(0), due[0] + "|" + W);
        CHECK.index(t, "text 2", () -> t.pageLine(0, 2));
        CHECK.same("text 1", t.pageLine(0, 1), W);
        Justline u = text(0, 0, 7, 2);
        CHECK.same("PARAGRAPH and line that begin a page", u.ofPage(0, 3) * 10 + u.ofPage(0, 4), 20);
        CHECK.same("of the second one", u.ofPage(1, 3) * 10 + u.ofPage(1, 4), 25);
        Justline v = text(6, 2);
        CHECK.same("just behind a PARAGRAPH", v.ofPage(1, 3) * 10 + v.ofPage(1, 4), 10);
    }

    /** even(): "of 6 or more (also above 24)", "(6 without lines)", columns 1 to 6. */
    private static void evenAtTheEdge() {
        for (int columns = 1; columns <= 6; columns++) {
            CHECK.same("without lines", text().even(columns), 6);
            CHECK.same("without words", text(0, 0).even(columns), 6);
            CHECK.same("one line", text(1).even(columns), 6);
            CHECK.same("six lines", text(2, 2, 2).even(columns), 6);
        }
        CHECK.same("seven lines", text(2, 2, 2, 1).even(1), 7);
        CHECK.same("in two", text(2, 2, 2, 1).even(2), 6);
        CHECK.same("24", text(24).even(1), 24);
        CHECK.same("25", text(24, 1).even(1), 25);
        CHECK.same("288", text(24, 24, 24, 24, 24, 24, 24, 24, 24, 24, 24, 24).even(1), 288);
        CHECK.same("of six", text(24, 24, 24, 24, 24, 24, 24, 24, 24, 24, 24, 24).even(6), 48);
        Justline t = text(24, 24, 24, 24, 24, 24, 24, 24, 24, 24, 24, 24);
        t.set(3, 2);
        t.set(4, 1);
        CHECK.same("with empty lines and the line ahead", t.even(1), 288 + 22 + 1);
        t.note(0, 0, WIDE, WIDE);
        t.note(11, 23, WIDE, -1);
        CHECK.same("with NOTES", t.even(1), 288 + 22 + 1 + 3);
        t.set(1, 24);
        CHECK.same("whatever HEIGHT is", t.even(1), 288 + 22 + 1 + 3);
        CHECK.same("which stays", t.set(1, 6), 24);
        Justline u = onlyHeads(12);
        CHECK.same("FORCED ones", u.even(2), 6);
        CHECK.same("one", u.even(1), 12);
    }

    /** The smallest one: with 1 less there would be more pages. */
    private static void evenIsTheSmallest() {
        Justline[] texts = {text(24), text(7, 9, 11), text(3, 3, 3, 3, 3, 3), text(13, 1, 24, 2), onlyHeads(12)};
        for (int k = 0; k < texts.length; k++) {
            Justline t = texts[k];
            t.set(3, k % 3);
            t.set(4, k % 2);
            t.note(0, 0, WIDE, WIDE);
            for (int columns = 1; columns <= 6; columns++) {
                int even = t.even(columns);
                CHECK.holds("6 or more", even >= 6);
                if (even <= 24) {
                    t.set(1, even);
                    CHECK.holds("text " + k + ", " + columns + " columns fit", t.pages() <= columns);
                }
                for (int less = 6; less < even && less <= 24; less++) {
                    t.set(1, less);
                    CHECK.holds("text " + k + ", " + columns + " columns at " + less, t.pages() > columns);
                }
            }
        }
    }

    /** keep() and changed(): from nothing to some, from some to nothing, one of them alone. */
    private static void keptAndChanged() {
        Justline t = text(1);
        CHECK.same("nothing kept", t.changed(), "?");
        t.rub(0, 1);
        CHECK.same("nor without pages", t.changed(), "?");
        CHECK.same("none", t.keep(), 0);
        CHECK.same("the same none", t.changed(), "");
        t.sow(0, WIDE - 1, 0, 6);
        CHECK.same("one there now", t.changed(), "0");
        CHECK.same("one", t.keep(), 1);
        CHECK.same("as it was", t.changed(), "");
        t.sow(0, WIDE - 1, 0, 6);
        CHECK.same("a second one there now", t.changed(), "1");
        CHECK.same("two", t.keep(), 2);
        t.rub(0, 6);
        CHECK.same("the second one gone", t.changed(), "1");
        t.retype(0, 5, 1);
        CHECK.same("and the first one not as it was", t.changed(), "0 1");
        t.rub(0, 24);
        CHECK.same("both gone", t.changed(), "0 1");
        t.keep();
        CHECK.same("what was kept before is gone", t.changed(), "");
        Justline v = text(12);
        v.retype(0, 5, Texts.code("wwwww"));
        v.keep();
        v.retype(0, 5, WIDE);
        CHECK.same("one sign more, as that of the next page", v.changed(), "0");
        v.keep();
        v.retype(0, 0, Texts.code("mwwwww"));
        CHECK.same("the very first sign", v.changed(), "0");
        v.retype(0, 0, WIDE);
        v.retype(0, 11, Texts.code("wwwwwm"));
        CHECK.same("the very last sign", v.changed(), "1");
        v.retype(0, 11, Texts.code("wwwww"));
        CHECK.same("one sign less", v.changed(), "1");
        Justline u = text(24, 24, 24);
        u.keep();
        u.set(4, 1);
        CHECK.same("each with a line ahead", u.changed(), "0 1 2 3 4 5 6 7 8 9 10 11 12 13 14");
        u.set(4, 0);
        CHECK.same("each as it was", u.changed(), "");
        u.retype(1, 0, 1);
        u.retype(1, 0, WIDE);
        CHECK.same("one retyped twice", u.changed(), "");
        u.move(2, 0);
        CHECK.same("the texts count, not the PARAGRAPHS", u.changed(), "");
        u.knock();
        u.stop(1, 1);
        CHECK.same("what does not show", u.changed(), "");
        u.set(2, 0);
        u.set(1, 24);
        CHECK.same("fewer and higher ones", u.changed(), "0 1 2 3 4 5 6 7 8 9 10 11");
    }

    /** index(): "each once, rising": on one page twice, on some pages, of a broken WORD where it ends. */
    private static void indexOfPages() {
        Justline t = text(6, 6, 6);
        CHECK.same("all", t.index(WIDE), "0 1 2");
        t.retype(0, 0, 1);
        CHECK.same("the first line", t.index(1), "0");
        t.retype(0, 1, 1);
        CHECK.same("twice on a page", t.index(1), "0");
        t.retype(2, 5, 1);
        CHECK.same("and on the last one", t.index(1), "0 2");
        CHECK.same("none", t.index(2), "");
        t.note(0, 1, 2, 2);
        CHECK.same("not in a NOTE", t.index(2), "");
        Justline u = text(6);
        Texts.type(u, 0, "wwwwww wwwwww wwwwww");
        u.paragraph(2, 0, 0, 0);
        Texts.type(u, 1, "a> e/ a");
        CHECK.same("in TABBED", u.index(2), "1");
        u.rub(1, 3);
        CHECK.same("rubbed", u.index(2), "");
    }
}
