/**
 * What the document tells of all PARAGRAPHS holds for each KIND and each ALIGN: NOTES, breaks, EXCEPTIONS,
 * lines that are TOO WIDE, RIVERS, BAD ends of pages, what is dropped (promises 7 to 10, 20, 24, 28, 34, 35, 38).
 */
public final class EachKindTest {
    private static final int PLAIN = 0;
    private static final int QUOTE = 1;
    private static final int TABBED = 2;
    private static final int HEAD = 3;
    private static final int ITEM = 4;
    private static final int WIDE = Texts.code("wwwwww");
    private static final Check CHECK = new Check("EachKindTest");

    public static void main(String[] args) {
        for (int kind = PLAIN; kind <= ITEM; kind++) {
            notes(kind);
            notesTakeLines(kind);
            index(kind);
            lonelyLines(kind);
            changes(kind);
            dropped(kind);
            for (int align = 0; align <= 3; align++) {
                rivers(kind, align);
                if (kind != TABBED) {
                    breaks(kind, align);
                    aligned(kind, align);
                }
            }
        }
        tooWide();
        fullWords();
        CHECK.end();
    }

    private static int add(Justline t, int kind, int align, int first, int hang) {
        return kind == ITEM ? t.item(1, 0, align) : t.paragraph(kind, align, first, hang);
    }

    /** Lines 24 wide, pages of 6 lines, SKIP 0. */
    private static Justline text() {
        Justline t = new Justline();
        t.set(0, 24);
        t.set(1, 6);
        t.set(3, 0);
        return t;
    }

    /** INDENT of each line: 0, 4, 0, 0, 3. */
    private static int indent(int kind) {
        return kind == QUOTE ? 4 : kind == ITEM ? 3 : 0;
    }

    /** ROOM of each line: 24, 16, 24, 24, 21. */
    private static int room(int kind) {
        return kind == QUOTE ? 16 : kind == ITEM ? 21 : 24;
    }

    /** So many lines, each of one WORD that is 15 wide (two of them are in no ROOM). */
    private static void addLines(Justline t, int kind, int many) {
        int p = add(t, kind, 0, 0, 0);
        for (int n = 0; n < many; n++) {
            t.type(p, Texts.code("wwwww"), 2);
        }
    }

    private static String ahead(int kind, boolean isFirst) {
        return kind == ITEM && isFirst ? "1. " : " ".repeat(indent(kind));
    }

    /** The asterisk, and what ofLine, ofPage, house and notePage tell of two NOTES in two lines. */
    private static void notes(int kind) {
        Justline t = text();
        addLines(t, kind, 3);
        CHECK.same("lines, kind " + kind, t.lines(0), 3);
        CHECK.same("the second, kind " + kind, t.note(0, 2, 1, 2), 1);
        CHECK.same("the first, kind " + kind, t.note(0, 0, 3, -1), 2);
        CHECK.state(t, "a third, kind " + kind, () -> t.note(0, 1, 1, -1));
        CHECK.same("asterisks, kind " + kind, Texts.lines(t, 0), ahead(kind, true) + "wwwww*|"
            + ahead(kind, false) + "wwwww|" + ahead(kind, false) + "wwwww*");
        CHECK.same("gap, kind " + kind, t.ofLine(0, 0, 3), room(kind) - 16);
        CHECK.same("of lines, kind " + kind, t.ofLine(0, 0, 9) * 100 + t.ofLine(0, 1, 9) * 10 + t.ofLine(0, 2, 9), 101);
        CHECK.same("house, kind " + kind, t.house(4), 2);
        CHECK.same("of the page, kind " + kind, t.ofPage(0, 1), 2);
        CHECK.same("its last texts, kind " + kind, t.pageLine(0, 4) + t.pageLine(0, 5), "* i* a e");
        CHECK.same("page, kind " + kind, t.notePage(0, 0) + t.notePage(0, 2), 0);
        CHECK.same("none, kind " + kind, t.notePage(0, 1), -1);
        CHECK.same("rubbed, kind " + kind, t.rub(0, 1) + t.house(4), 3);
    }

    /** A line goes over to the next page with the NOTE that it brings: the page of 6 has 4 and 2 then. */
    private static void notesTakeLines(int kind) {
        Justline t = text();
        addLines(t, PLAIN, 2);
        addLines(t, PLAIN, 2);
        addLines(t, kind, 2);
        CHECK.same("without, kind " + kind, t.ofPage(0, 0), 6);
        t.note(2, 0, WIDE, WIDE);
        CHECK.same("its line goes over, kind " + kind, t.ofPage(0, 0) * 10 + t.ofPage(1, 0), 42);
        CHECK.same("with two lines, kind " + kind, t.ofPage(0, 1) * 10 + t.ofPage(1, 1), 2);
        CHECK.same("to its page, kind " + kind, t.notePage(2, 0), 1);
        CHECK.same("which is full, kind " + kind, t.ofPage(1, 6), 6);
        t.drop(1);
        CHECK.same("back again, kind " + kind, t.notePage(1, 0), 0);
        t.note(1, 1, 1, -1);
        // 2 lines, and one with its NOTE of two; the other one and its NOTE are one too many
        CHECK.same("one each, kind " + kind, t.notePage(1, 0) * 10 + t.notePage(1, 1), 1);
    }

    private static void index(int kind) {
        Justline t = text();
        addLines(t, PLAIN, 2);
        addLines(t, kind, 3);
        addLines(t, PLAIN, 2);
        t.retype(1, 2, Texts.code("wwwwo"));
        CHECK.same("last line, kind " + kind, t.index(Texts.code("wwwwo")), "" + t.ofLine(1, 2, 8));
        CHECK.same("all others, kind " + kind, t.index(Texts.code("wwwww")), "0 1");
        t.retype(1, 0, Texts.code("mwwww"));
        CHECK.same("first line, kind " + kind, t.index(Texts.code("mwwww")), "0");
        CHECK.same("no longer, kind " + kind, t.index(WIDE), "");
    }

    /** "the first line of a PARAGRAPH of 3 lines or more, or .. the last but one of such": of any KIND. */
    private static void lonelyLines(int kind) {
        Justline t = text();
        addLines(t, PLAIN, 5);
        addLines(t, kind, 3);
        addLines(t, PLAIN, 1);
        CHECK.same("first of three, kind " + kind, t.ofPage(0, 0), 5);
        t.rub(1, 1);
        CHECK.same("first of two, kind " + kind, t.ofPage(0, 0), 6);
        Justline u = text();
        addLines(u, PLAIN, 2);
        addLines(u, kind, 5);
        CHECK.same("last but one of five, kind " + kind, u.ofPage(0, 0), 5);
        CHECK.same("PARAGRAPH and line, kind " + kind, u.ofPage(1, 3) * 10 + u.ofPage(1, 4), 13);
        u.rub(1, 1);
        CHECK.same("all of four, kind " + kind, u.ofPage(0, 0), 6);
        addLines(u, PLAIN, 1);
        CHECK.same("with one behind, kind " + kind, u.ofPage(0, 0), kind == HEAD ? 4 : 6);
    }

    /** type, sow, retype, rub, typed and word of each KIND. */
    private static void changes(int kind) {
        Justline t = text();
        add(t, kind, 2, 3, 4);
        CHECK.same("type, kind " + kind, t.type(0, 1, 1) + t.type(0, 2, 2), 3);
        CHECK.same("sow, kind " + kind, t.sow(0, 2, 1, 2), 2);
        CHECK.same("typed, kind " + kind, t.typed(0), "a>e/i l ");
        CHECK.same("retype, kind " + kind, t.retype(0, 1, 9), "e");
        CHECK.same("SPACES stay, kind " + kind, t.typed(0), "a>./i l ");
        CHECK.same("word, kind " + kind, t.word(0, 1) + t.word(0, 3) + t.word(0, 4), ".l");
        CHECK.same("rub, kind " + kind, t.rub(0, 2), 2);
        CHECK.same("two are left, kind " + kind, t.typed(0), "a>./");
        CHECK.same("rub all, kind " + kind, t.rub(0, 3), 0);
        CHECK.same("none is left, kind " + kind, t.typed(0), "");
        CHECK.same("24 more, kind " + kind, t.sow(0, 0, 0, 24), 24);
        CHECK.state(t, "a 25th, kind " + kind, () -> t.type(0, 1, 0));
    }

    /** Each KIND dropped and moved, between two others: its WORDS go with it, and no others. */
    private static void dropped(int kind) {
        for (int place = 0; place < 3; place++) {
            Justline t = text();
            StringBuilder due = new StringBuilder();
            for (int i = 0; i < 3; i++) {
                add(t, i == place ? kind : QUOTE, 0, 0, 0);
                t.type(i, 10 + i, 0);
                due.append(i == place ? "" : t.typed(i));
            }
            t.type(place, 1, 1);
            t.note(place, 0, 1, -1);
            CHECK.same("move, kind " + kind, t.move(place, 2 - place), place == 1 ? 0 : 3);
            CHECK.same("moved with its WORDS, kind " + kind, t.typed(2 - place), Model.text(10 + place) + " a>");
            CHECK.same("and its NOTE, kind " + kind, t.notePage(2 - place, 0), 0);
            CHECK.same("move back, kind " + kind, t.move(2 - place, place), place == 1 ? 0 : 3);
            CHECK.same("drop, kind " + kind, t.drop(place), 2);
            CHECK.same("the others, kind " + kind, t.typed(0) + t.typed(1), due.toString());
            CHECK.same("the NOTE is gone, kind " + kind, t.house(4), 0);
            CHECK.same("two lines, kind " + kind, t.house(2), 2);
        }
    }

    /** Two WORDS a line with a GAP of 2 in all ROOMS: the one blank between is over one x, or three by BOTH. */
    private static void rivers(int kind, int align) {
        String[] pairs = {"wwww www", "www tttt", "wwww www/", "wwww www", "wwww ww"};
        Justline t = text();
        add(t, kind, align, 0, 0);
        Texts.type(t, 0, Texts.times(2, pairs[kind]));
        String what = ", kind " + kind + ", align " + align;
        CHECK.same("two lines" + what, t.lines(0) * 10 + t.rivers(0), 20);
        Texts.type(t, 0, Texts.times(2, pairs[kind]));
        CHECK.same("four lines" + what, t.lines(0), 4);
        CHECK.same("rivers" + what, t.rivers(0), align == 2 && kind != TABBED ? 4 : 2);
        int shift = kind == TABBED ? 0 : align == 1 ? 2 : align == 3 ? 1 : 0;
        String pair = pairs[kind].replace("/", "");
        CHECK.same("the last one" + what, t.line(0, 3), " ".repeat(indent(kind) + shift) + pair);
        CHECK.same("blanks" + what, t.ofLine(0, 0, 5), 1);
        CHECK.same("how wide" + what, t.ofLine(0, 0, 6), align == 2 && kind != TABBED ? 3 : 1);
    }

    /** A WORD that is broken where the ROOM ends: the dash, the cost, and what an EXCEPTION does. */
    private static void breaks(int kind, int align) {
        Justline t = roomOf24(kind, align);
        Texts.type(t, 0, "tttttt tttttt malate");
        String what = ", kind " + kind + ", align " + align;
        CHECK.same("lines" + what, contents(t), align == 2 ? "tttttt  tttttt mala-|te" : "tttttt tttttt mala-|te");
        CHECK.same("within a WORD" + what, t.ofLine(0, 0, 4) * 10 + t.ofLine(0, 1, 4), 10);
        CHECK.same("house" + what, t.house(9), 1);
        CHECK.same("gap and cost" + what, t.badness(0, false), 1 + 9);
        t.set(2, 99);
        CHECK.same("another cost" + what, t.badness(0, false), 1 + 99);
        CHECK.same("in the house" + what, t.house(7), 1 + 99);
        CHECK.same("by FIRST FIT" + what, t.badness(0, true), 1 + 99);
        CHECK.same("by three lines" + what, t.would(0, 3), 11 * 11 + 15 * 15 + 99);
        t.exception(Texts.code("malate"), 0);
        CHECK.same("none by an EXCEPTION" + what, t.house(9) + t.ofLine(0, 0, 4), 0);
        CHECK.same("its gap" + what, t.badness(0, false), 11 * 11);
        t.set(2, 9);
        t.exception(Texts.code("malate"), 2);
        CHECK.holds("another place" + what, contents(t).endsWith(" m-|alate"));
        t.exception(Texts.code("malate"), -1);
        CHECK.same("by the rule again" + what, t.badness(0, false), 1 + 9);
    }

    /** A text with one PARAGRAPH, and the WIDTH of lines so told that each of its lines has a ROOM of 24. */
    private static Justline roomOf24(int kind, int align) {
        Justline t = text();
        t.set(0, 24 + 24 - room(kind));
        add(t, kind, align, 0, 0);
        return t;
    }

    /** The lines without what stands ahead of their CONTENTS. */
    private static String contents(Justline t) {
        StringBuilder all = new StringBuilder();
        for (int n = 0; n < t.lines(0); n++) {
            all.append(n > 0 ? "|" : "").append(t.line(0, n).replaceAll("^ *(1\\.)? *", ""));
        }
        return all.toString();
    }

    /** What stands ahead of a CONTENT with a GAP of 5, and the text that BOTH shares out. */
    private static void aligned(int kind, int align) {
        Justline t = roomOf24(kind, align);
        Texts.type(t, 0, "tttttt tttttt ttttt wwwwww");
        // the first line is 19 wide
        String ahead = ahead(kind, true) + (align == 1 ? "     " : align == 3 ? "  " : "");
        String content = align == 2 ? "tttttt    tttttt   ttttt" : "tttttt tttttt ttttt";
        CHECK.same("first line, kind " + kind + ", align " + align, t.line(0, 0), ahead + content);
        CHECK.same("its gap, kind " + kind + ", align " + align, t.ofLine(0, 0, 3), 5);
        CHECK.same("last line, kind " + kind + ", align " + align, t.line(0, 1), ahead(kind, false)
            + (align == 1 ? "      " : align == 3 ? "   " : "") + "wwwwww");
    }

    /** Lines that are TOO WIDE, of each KIND that can have some: what house() and the ALIGN make of them. */
    private static void tooWide() {
        for (int align = 0; align <= 3; align++) {
            Justline t = text();
            t.paragraph(PLAIN, align, 6, 6);
            Texts.type(t, 0, "wwwwww wwwwww wwwwww");
            t.note(0, 0, 1, -1);
            t.note(0, 2, 1, -1);
            CHECK.same("PLAIN, the first and the last, align " + align, t.house(3), 2);
            CHECK.same("no blanks more", Texts.lines(t, 0), "      wwwwww*|      wwwwww|      wwwwww*");
            CHECK.same("its badness", t.badness(0, false), 2 * 1001);
            Justline u = text();
            u.item(3, 0, align);
            Texts.type(u, 0, "wwwwww wwwww");
            // ROOM is 24 - 6 - 2 - 1
            CHECK.same("ITEM, align " + align, u.house(3), 1);
            CHECK.same("its line", u.line(0, 0), "      1. wwwwww");
            CHECK.same("its gap", u.ofLine(0, 0, 3) * 10 + u.ofLine(0, 1, 3), -30);
            CHECK.same("its badness", u.badness(0, false), 1009);
            Justline v = text();
            v.paragraph(QUOTE, align, 0, 6);
            Texts.type(v, 0, "wwwwww wwww");
            CHECK.same("QUOTE, align " + align, v.house(3), 2);
            CHECK.same("its lines", Texts.lines(v, 0), "    wwwwww|          wwww");
            Justline w = text();
            w.paragraph(TABBED, align, 0, 0);
            Texts.type(w, 0, "wwwwww wwwwww/ a/ wwwwww> wwwwww");
            CHECK.same("TABBED, align " + align, w.house(3), 2);
            w.paragraph(HEAD, align, 6, 6);
            Texts.type(w, 1, "wwwwww wwwwww");
            w.note(1, 0, 1, -1);
            CHECK.same("a HEAD has none, align " + align, w.house(3) * 10 + w.lines(1), 22);
        }
    }

    /** 24 WORDS of each KIND, each with two NOTES: they end in lines one behind the other. */
    private static void fullWords() {
        for (int kind = PLAIN; kind <= ITEM; kind++) {
            Justline t = text();
            addLines(t, kind, 24);
            t.note(0, 23, 1, -1);
            t.note(0, 22, 1, -1);
            CHECK.same("24 lines, kind " + kind, t.lines(0), 24);
            for (int n = 0; n < 24; n++) {
                CHECK.same("words of line " + n, t.ofLine(0, n, 1) * 100 + t.ofLine(0, n, 2), 101 * n);
            }
            CHECK.same("NOTES, kind " + kind, t.ofLine(0, 22, 9) * 10 + t.ofLine(0, 23, 9), 11);
            CHECK.same("the last page, kind " + kind, t.notePage(0, 23), t.pages() - 1);
        }
    }
}
