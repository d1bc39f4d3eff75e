/** Promises 31 to 37: what is asked of pages. */
public final class PagesTest {
    private static final Check CHECK = new Check("PagesTest");
    private static final String W = "wwwwww";

    public static void main(String[] args) {
        pages();
        bad();
        forced();
        page();
        headLines();
        notes();
        pageLine();
        ofPage();
        linesOfNotes();
        notePage();
        even();
        changed();
        pagesOfNotes();
        CHECK.end();
    }

    /** Paragraphs with so many lines of one word each, 24 wide, on pages of 6 lines. */
    private static Justline text(int skip, int... lines) {
        Justline t = new Justline();
        t.set(0, 24);
        t.set(1, 6);
        t.set(3, skip);
        for (int i = 0; i < lines.length; i++) {
            t.paragraph(0, 0, 0, 0);
            Texts.type(t, i, Texts.times(lines[i], W));
        }
        return t;
    }

    /** How many lines of paragraphs each page has, a FORCED one with "!" behind. */
    private static String filled(Justline t) {
        StringBuilder all = new StringBuilder();
        for (int n = 0; n < t.pages(); n++) {
            all.append(n > 0 ? " " : "").append(t.ofPage(n, 0)).append(t.ofPage(n, 5) == 1 ? "!" : "");
        }
        return all.toString();
    }

    private static void pages() {
        CHECK.same("none", new Justline().pages(), 0);
        Justline t = text(1);
        t.paragraph(0, 0, 0, 0);
        CHECK.same("without words", t.pages(), 0);
        CHECK.same("one line", text(1, 1).pages(), 1);
        CHECK.same("six lines", text(1, 6).pages(), 1);
        CHECK.same("eight lines", filled(text(1, 8)), "6 2");
        CHECK.same("three and three", filled(text(0, 3, 3)), "6");
        // with the empty line three of four would fit, but the third one is the last but one
        CHECK.same("with an empty line", filled(text(1, 2, 4)), "4 2");
        CHECK.same("an empty paragraph between", filled(text(1, 2, 2)), "4");
    }

    private static void bad() {
        // not the last but one of 7 at the end: it goes with the last one
        CHECK.same("last but one", filled(text(1, 7)), "5 2");
        // the first one of three goes with the second one, and that is the last but one
        CHECK.same("a first line", filled(text(0, 5, 3)), "5 3");
        CHECK.same("a first line and the next", filled(text(0, 4, 3)), "4 3");
        CHECK.same("all three", filled(text(0, 3, 3, 1)), "6 1");
        CHECK.same("first two of four", filled(text(0, 4, 4)), "6 2");
        CHECK.same("first one of four", filled(text(0, 5, 4)), "5 4");
        CHECK.same("two lines are never lonely", filled(text(0, 5, 2)), "6 1");
        CHECK.same("a first one, more than one page", filled(text(0, 5, 9)), "5 6 3");
        CHECK.same("skip is not a line given back", filled(text(2, 3, 4)), "3 4");
        Justline t = text(0, 5);
        t.paragraph(3, 0, 0, 0);
        Texts.type(t, 1, W);
        t.paragraph(0, 0, 0, 0);
        Texts.type(t, 2, W);
        CHECK.same("a HEAD does not end a page", filled(t), "5 2");
        t.drop(2);
        CHECK.same("but the last one", filled(t), "6");
        Justline u = text(0, 4);
        u.paragraph(3, 0, 0, 0);
        Texts.type(u, 1, W + " " + W);
        u.paragraph(0, 0, 0, 0);
        Texts.type(u, 2, W);
        CHECK.same("the last line of a HEAD, but not its first", filled(u), "5 2");
    }

    private static void forced() {
        Justline t = text(0);
        for (int i = 0; i < 8; i++) {
            t.paragraph(3, 0, 0, 0);
            Texts.type(t, i, W);
        }
        CHECK.same("all are HEADS", filled(t), "6! 2");
        t.set(3, 2);
        CHECK.same("with empty lines", filled(t), "2! 2! 2! 2");
        CHECK.same("sound", t.isSound(), true);
        Justline u = text(0, 3);
        u.set(4, 1);
        u.note(0, 0, Texts.code(W), Texts.code(W));
        u.note(0, 1, Texts.code(W), Texts.code(W));
        // the line ahead, a line and its note are 4 texts; with the second line they would be 7
        CHECK.same("one line with its note", filled(u), "1! 2");
    }

    private static void page() {
        Justline t = text(1, 2, 1, 4);
        CHECK.same("first", t.page(0), W + "|" + W + "||" + W);
        CHECK.same("second", t.page(1), W + "|" + W + "|" + W + "|" + W);
        CHECK.index(t, "page 2", () -> t.page(2));
        CHECK.index(t, "page -1", () -> t.page(-1));
        CHECK.index(new Justline(), "no page", () -> new Justline().page(0));
        Justline u = text(2, 1);
        u.paragraph(0, 0, 0, 0);
        u.paragraph(0, 0, 0, 0);
        Texts.type(u, 2, "a");
        CHECK.same("an empty paragraph skips nothing more", u.page(0), W + "|||a");
        CHECK.same("no empty line at a page's head", text(2, 6, 1).page(1), W);
        CHECK.same("nor at its foot", text(2, 5, 1).page(0), W + ("|" + W).repeat(4));
    }

    private static void headLines() {
        Justline t = text(0, 6);
        t.set(4, 1);
        CHECK.same("without a HEAD", t.page(0), " ".repeat(23) + "1" + ("|" + W).repeat(4));
        CHECK.same("second", t.page(1), " ".repeat(23) + "2" + ("|" + W).repeat(2));
        t.paragraph(3, 0, 0, 0);
        Texts.type(t, 1, "male to");
        t.note(1, 0, 1, -1);
        CHECK.same("of this page, without its asterisk", t.pageLine(1, 0), "male" + " ".repeat(15) + "2");
        t.paragraph(3, 0, 0, 0);
        Texts.type(t, 2, W + " " + W);
        CHECK.same("the last one that begins on this page", t.pageLine(1, 0), W + " ".repeat(5) + "2");
        CHECK.same("and goes on", t.pageLine(2, 0), W + " ".repeat(5) + "3");
        t.paragraph(3, 0, 0, 0);
        CHECK.same("one without words does nothing", t.pageLine(2, 0), W + " ".repeat(5) + "3");
        t.paragraph(0, 0, 0, 0);
        Texts.type(t, 4, Texts.times(24, W));
        CHECK.same("of one before", t.pageLine(3, 0), W + " ".repeat(5) + "4");
        t.paragraph(0, 0, 0, 0);
        Texts.type(t, 5, Texts.times(24, W));
        CHECK.same("one digit", t.pageLine(8, 0), W + " ".repeat(5) + "9");
        CHECK.same("two digits", t.pageLine(9, 0), W + " ".repeat(4) + "10");
        CHECK.same("as wide as told", t.width(Texts.code(W)) + 4 + 2, 24);
        Justline u = text(0, 5);
        u.set(4, 1);
        u.paragraph(3, 0, 0, 0);
        Texts.type(u, 1, "male");
        CHECK.same("not that of the next page", u.pageLine(0, 0), " ".repeat(23) + "1");
        CHECK.same("on its page", u.page(1), "male" + " ".repeat(15) + "2|male");
        u.move(1, 0);
        CHECK.same("the very first line", u.pageLine(0, 0), "male" + " ".repeat(15) + "1");
    }

    private static void notes() {
        Justline t = text(0, 2);
        t.note(0, 1, Texts.code("toto"), Texts.code("wwwww"));
        // "* toto wwwww" is 1 + 1 + 6 + 1 + 15 = 24 wide
        CHECK.same("as wide as told", t.page(0), W + "|" + W + "*||||* toto wwwww");
        t.note(0, 0, Texts.code("wwwww"), Texts.code("tototo"));
        CHECK.same("too wide by two", t.page(0), W + "*|" + W + "*||* wwwww|tototo|* toto wwwww");
        t.paragraph(0, 0, 0, 0);
        Texts.type(t, 1, "a");
        CHECK.same("just full", t.page(0), W + "*|" + W + "*|a|* wwwww|tototo|* toto wwwww");
        t.set(3, 1);
        CHECK.same("more than full", filled(t), "2 1");
        CHECK.same("the next page has no notes", t.page(1), "a");
        Justline u = text(0, 1);
        u.note(0, 0, 1, -1);
        u.set(4, 1);
        CHECK.same("with the line ahead", u.page(0), " ".repeat(23) + "1|" + W + "*||||* a");
    }

    private static void pageLine() {
        Justline t = text(1, 2, 1, 4);
        t.note(1, 0, 1, -1);
        String[] due = {W, W, "", W + "*", "", "* a"};
        for (int n = 0; n < due.length; n++) {
            CHECK.same("text " + n, t.pageLine(0, n), due[n]);
        }
        CHECK.same("of the second", t.pageLine(1, 3), W);
        CHECK.index(t, "text 6", () -> t.pageLine(0, 6));
        CHECK.index(t, "text 4", () -> t.pageLine(1, 4));
        CHECK.index(t, "text -1", () -> t.pageLine(0, -1));
        CHECK.index(t, "page 2", () -> t.pageLine(2, 0));
        CHECK.index(t, "page -1", () -> t.pageLine(-1, 0));
    }

    private static void ofPage() {
        Justline t = text(1, 2, 1, 4);
        t.note(1, 0, 1, -1);
        int[] first = {3, 1, 1, 0, 0, 0, 6};
        int[] second = {4, 0, 0, 2, 0, 0, 4};
        for (int k = 0; k <= 6; k++) {
            CHECK.same("first, " + k, t.ofPage(0, k), first[k]);
            CHECK.same("second, " + k, t.ofPage(1, k), second[k]);
        }
        CHECK.argument(t, "what -1", () -> t.ofPage(0, -1));
        CHECK.argument(t, "what 7", () -> t.ofPage(0, 7));
        CHECK.index(t, "page 2", () -> t.ofPage(2, 7));
        CHECK.index(t, "page -1", () -> t.ofPage(-1, 0));
        Justline u = text(0, 8);
        CHECK.same("number of its first line", u.ofPage(1, 4), 6);
        CHECK.same("texts with empty lines", text(2, 2, 2).ofPage(0, 6), 6);
        u.set(4, 1);
        CHECK.same("texts with the line ahead", u.ofPage(1, 6), 4);
        CHECK.same("lines with the line ahead", u.ofPage(0, 0), 5);
    }

    /** ofPage(.., 1): lines of NOTES, not how many NOTES: with "a" behind "wwwwww" it is one line of 23. */
    private static void linesOfNotes() {
        int wide = Texts.code(W);
        int[][] others = {{-1, -1}, {1, -1}, {wide, -1}, {wide, 1}, {wide, wide}};
        int[] due = {2, 2, 3, 3, 4};
        for (int k = 0; k < others.length; k++) {
            Justline t = text(0, 2);
            CHECK.same("none", t.ofPage(0, 1), 0);
            t.note(0, 0, wide, others[k][0]);
            CHECK.same("of the first", t.ofPage(0, 1), others[k][0] == wide ? 2 : 1);
            t.note(0, 1, wide, others[k][1]);
            CHECK.same("of both", t.ofPage(0, 1), due[k]);
            CHECK.same("all texts", t.ofPage(0, 6), 6);
            CHECK.same("NOTES", t.house(4), 2);
        }
    }

    private static void notePage() {
        Justline t = text(0, 4);
        t.paragraph(0, 0, 0, 0);
        Texts.type(t, 1, "tttttt tttttt malate " + W + " " + W + " " + W);
        t.set(1, 7);
        CHECK.same("none", t.notePage(1, 2), -1);
        t.note(1, 2, 1, -1);
        t.note(1, 0, 1, -1);
        t.set(1, 6);
        // the word is broken: it begins in the first line, and ends in the second one
        CHECK.same("lines", Texts.lines(t, 1), "tttttt* tttttt mala-|te* " + W + "|" + W + "|" + W);
        // the first line would be lonely
        CHECK.same("filled", filled(t), "4 4");
        CHECK.same("where it ends", t.notePage(1, 2), 1);
        CHECK.same("the first", t.notePage(1, 0), 1);
        CHECK.index(t, "word 6", () -> t.notePage(1, 6));
        CHECK.index(t, "word -1", () -> t.notePage(1, -1));
        CHECK.index(t, "no paragraph", () -> t.notePage(2, 0));
        CHECK.index(t, "no paragraph", () -> t.notePage(-1, 0));
        Justline u = text(0, 8);
        u.note(0, 0, 1, -1);
        u.note(0, 7, 1, -1);
        CHECK.same("first page", u.notePage(0, 0), 0);
        CHECK.same("second page", u.notePage(0, 7), 1);
        CHECK.same("no note", u.notePage(0, 1), -1);
        Justline v = text(0, 5);
        Texts.type(v, 0, "tttttt tttttt malate " + W + " " + W);
        v.note(0, 7, 1, -1);
        CHECK.same("a word broken between pages", v.ofLine(0, 5, 2), 7);
        CHECK.same("begins on the first", v.ofLine(0, 5, 8), 0);
        CHECK.same("ends on the second", v.notePage(0, 7), 1);
        CHECK.same("where the note stands", v.page(1), "te* " + W + "|" + W + "||||* a");
    }

    private static void even() {
        CHECK.same("no lines", text(1).even(1), 6);
        Justline t = text(0, 10);
        CHECK.same("one column", t.even(1), 10);
        CHECK.same("two columns", t.even(2), 6);
        CHECK.same("six columns", t.even(6), 6);
        Justline u = text(0, 24, 24, 24);
        CHECK.same("above 24", u.even(1), 72);
        CHECK.same("two", u.even(2), 36);
        CHECK.same("three", u.even(3), 24);
        u.set(4, 1);
        CHECK.same("with the line ahead", u.even(1), 73);
        u.set(3, 2);
        CHECK.same("with empty lines", u.even(1), 77);
        CHECK.same("not what is told", u.ofPage(0, 0), 5);
        Justline v = text(0, 13);
        // 7 and 6: but 11, the last but one, must not end a page of 12
        CHECK.same("given back", v.even(2), 7);
        Justline w = text(0, 12, 1);
        CHECK.same("12 and 1", w.even(2), 7);
        w.note(0, 0, 1, 1);
        CHECK.same("with a note", w.even(1), 14);
        CHECK.argument(t, "0 columns", () -> t.even(0));
        CHECK.argument(t, "7 columns", () -> t.even(7));
        CHECK.argument(t, "least", () -> t.even(Integer.MIN_VALUE));
    }

    private static void changed() {
        Justline t = text(0, 14);
        CHECK.same("nothing kept", t.changed(), "?");
        t.keep();
        CHECK.same("as kept", t.changed(), "");
        t.retype(0, 0, Texts.code("mmmmmm"));
        t.retype(0, 13, Texts.code("mmmmmm"));
        CHECK.same("first and last", t.changed(), "0 2");
        t.retype(0, 0, Texts.code(W));
        CHECK.same("as it was again", t.changed(), "2");
        t.rub(0, 10);
        CHECK.same("gone ones", t.changed(), "0 1 2");
        t.rub(0, 10);
        CHECK.same("none there", t.changed(), "0 1 2");
        t.keep();
        CHECK.same("none kept", t.changed(), "");
        Texts.type(t, 0, Texts.times(7, W));
        CHECK.same("new ones", t.changed(), "0 1");
        t.keep();
        t.set(4, 1);
        CHECK.same("the line ahead", t.changed(), "0 1");
        t.set(4, 0);
        t.note(0, 6, 1, -1);
        CHECK.same("a note", t.changed(), "1");
    }

    /** notePage(): of each WORD its page, or NONE; with its line it goes over, and away with its WORD. */
    private static void pagesOfNotes() {
        Justline t = text(0, 24);
        t.note(0, 5, 1, -1);
        // the sixth line and its NOTE are one too many; then the page takes five
        for (int w = 0; w < 24; w++) {
            CHECK.same("word " + w, t.notePage(0, w), w == 5 ? 1 : -1);
        }
        CHECK.same("the line goes over", t.ofLine(0, 5, 8), 1);
        t.note(0, 23, 1, -1);
        CHECK.same("the last one", t.notePage(0, 23), t.pages() - 1);
        t.rub(0, 1);
        CHECK.index(t, "rubbed", () -> t.notePage(0, 23));
        t.sow(0, 0, 0, 1);
        CHECK.same("a new one has none", t.notePage(0, 23), -1);
        t.paragraph(0, 0, 0, 0);
        CHECK.index(t, "without WORDS", () -> t.notePage(1, 0));
        t.move(1, 0);
        CHECK.same("of another number", t.notePage(1, 5), 1);
        t.set(1, 24);
        CHECK.same("of higher pages", t.notePage(1, 5), 0);
    }
}
