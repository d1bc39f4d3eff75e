/** The edges of size: as many paragraphs, words, pieces, lines, exceptions and pages as can be. */
public final class BigTest {
    private static final Check CHECK = new Check("BigTest");
    private static final int W = Texts.code("wwwwww");

    public static void main(String[] args) {
        manyPages();
        likeModel();
        wideTabs();
        mostLines();
        farRivers();
        manyExceptions();
        CHECK.end();
    }

    private static void manyPages() {
        Justline t = new Justline();
        t.set(0, 24);
        t.set(1, 6);
        t.set(2, 0);
        t.set(4, 1);
        t.exception(W, 62);
        for (int i = 0; i < 12; i++) {
            t.paragraph(1, 2, 6, 6);
            t.sow(i, W - 1, 0, 24);
        }
        // room 10: each word is "www-" and "www"
        CHECK.same("lines", t.lines(0), 48);
        CHECK.same("badness", t.badness(0, false), 23);
        CHECK.same("all lines", t.house(2), 576);
        CHECK.same("within a word", t.house(9), 288);
        CHECK.same("pages", t.pages(), 120);
        CHECK.same("the hundredth", t.pageLine(99, 0), " ".repeat(21) + "100");
        CHECK.same("the last but one of two digits", t.pageLine(98, 0), " ".repeat(22) + "99");
        CHECK.same("index", t.index(W).split(" ").length, 120);
        CHECK.same("keep", t.keep(), 120);
        CHECK.same("nothing changed", t.changed(), "");
        // two paragraphs, an empty line between, and the line ahead
        CHECK.same("even", t.even(6), 98);
        CHECK.same("one column", t.even(1), 1 + 576 + 11);
        CHECK.holds("99 lines", t.would(0, 99) > 23);
        CHECK.same("48 lines", t.would(0, 48), 23);
        CHECK.same("47 lines", t.would(0, 47), -1);
        CHECK.holds("sound", t.isSound());
        t.set(2, 99);
        CHECK.same("as many lines at any cost", t.lines(0), 48);
    }

    private static void likeModel() {
        for (int round = 0; round < 6; round++) {
            Justline t = new Justline();
            Model m = new Model();
            int wide = 24 + 7 * round;
            CHECK.same("set", t.set(0, wide), m.set(0, wide));
            CHECK.same("set", t.set(2, 19 * round), m.set(2, 19 * round));
            CHECK.same("set", t.set(4, 1), m.set(4, 1));
            for (int i = 0; i < 12; i++) {
                int kind = (i + round) % 4;
                if (i % 5 == 4) {
                    CHECK.same("item", t.item(3, 2, i % 4), m.item(3, 2, i % 4));
                } else {
                    CHECK.same("paragraph", t.paragraph(kind, i % 4, 6, i % 7), m.paragraph(kind, i % 4, 6, i % 7));
                }
                int from = 66430 + 40000 * i + round;
                CHECK.same("sow", t.sow(i, from, 1 + round * 9, 24), m.sow(i, from, 1 + round * 9, 24));
                for (int w = 0; w < 24; w += 1 + round % 2) {
                    int code = 1 + (from + w * (1 + round * 9)) % 597870;
                    CHECK.same("exception", t.exception(code, 62), m.exception(code, 62));
                }
                CHECK.same("note", t.note(i, 23, W, W), m.note(i, 23, W, W));
            }
            CHECK.same("digest", t.digest(), m.digest());
            for (int n = 0; n < m.pages(); n++) {
                CHECK.same("page", t.page(n), m.page(n));
            }
            for (int lines = 1; lines <= 99; lines += 7) {
                CHECK.same("would " + lines, t.would(round, lines), m.would(round, lines));
            }
        }
    }

    private static void wideTabs() {
        for (int kind = -1; kind <= 3; kind++) {
            Justline t = new Justline();
            Model m = new Model();
            for (int i = 0; i < 3; i++) {
                t.paragraph(2, 0, 0, 0);
                m.paragraph(2, 0, 0, 0);
                for (int w = 0; w < 24; w++) {
                    int space = (i + w) % (i + 1) == 0 ? 1 : 0;
                    t.type(i, W, w % 8 == 7 && i == 2 ? 2 : space);
                    m.type(i, W, w % 8 == 7 && i == 2 ? 2 : space);
                }
                t.note(i, 23, 1, -1);
                m.note(i, 23, 1, -1);
            }
            for (int x = 1; x <= 59; x += 2) {
                t.stop(x, kind);
                m.stop(x, kind);
            }
            // 24 words of 18, an asterisk, and a blank ahead of each but the first one
            CHECK.same("width", t.ofLine(0, 0, 0), m.ofLine(0, 0, 0));
            CHECK.same("blanks", t.ofLine(0, 0, 5), 23);
            CHECK.same("digest", t.digest(), m.digest());
        }
    }

    /** Three lines for each of 288 WORDS, and four lines of NOTES for each PARAGRAPH. */
    private static void mostLines() {
        Justline t = new Justline();
        t.set(0, 24);
        t.set(1, 6);
        t.set(3, 2);
        t.set(4, 1);
        t.exception(W, (1 << 2) + (1 << 4));
        for (int i = 0; i < 12; i++) {
            t.paragraph(1, i % 4, 6, 6);
            t.sow(i, W - 1, 0, 24);
            t.note(i, 0, W, W);
            t.note(i, 23, W, W);
        }
        // room 10: "ww-" 7, "ww-" 7, "ww" 6, and 7 with an asterisk; with the next PIECE it is 13 or more
        CHECK.same("lines", t.house(2), 864);
        CHECK.same("within a WORD", t.house(9), 576);
        CHECK.same("the last one, MIDDLE", t.line(11, 71), " ".repeat(10 + 3 / 2) + "ww*");
        CHECK.same("badness", t.badness(0, false), 48 * (9 + 9) + 22 * 16 + 9);
        CHECK.same("first fit", t.badness(0, true) * 100 + t.fits(0), t.badness(0, false) * 100 + 72);
        CHECK.same("by 72", t.would(0, 72), t.badness(0, false));
        CHECK.same("not by 71", t.would(0, 71), -1);
        CHECK.same("nor by 73", t.would(0, 73), -1);
        // a line ahead, all lines, two empty ones between, and 24 NOTES of two lines
        CHECK.same("one column", t.even(1), 1 + 864 + 22 + 48);
        CHECK.same("its last page", t.ofLine(11, 71, 8), t.pages() - 1);
        CHECK.same("all kept", t.keep(), t.pages());
        CHECK.same("as kept", t.changed(), "");
        t.retype(11, 23, W - 1);
        CHECK.same("the last WORD is another one", t.changed().split(" ")[0], "" + t.notePage(11, 23));
        CHECK.holds("sound", t.isSound());
    }

    /** RIVERS far to the right: of lines that are TABBED there is no bound but their WORDS. */
    private static void farRivers() {
        Justline t = new Justline();
        t.paragraph(2, 0, 0, 0);
        for (int w = 0; w < 24; w++) {
            t.type(0, W, w % 8 == 7 ? 2 : 0);
        }
        // seven blanks a line, the last one behind 7 * 18 + 6
        CHECK.same("seven of three lines", t.rivers(0), 7);
        t.retype(0, 0, W - 1);
        CHECK.same("one sign narrower: none", t.rivers(0), 0);
        t.retype(0, 1, Texts.code("mmmmmm"));
        CHECK.same("as wide, but another one", t.rivers(0), 0);
    }

    /** As many as all calls of an object but a few can tell. */
    private static void manyExceptions() {
        Justline t = new Justline();
        for (int n = 0; n < 508; n++) {
            CHECK.same("exception", t.exception(597870 - n, 2 * (n % 32)), -1);
        }
        CHECK.same("all of them", t.house(5), 508);
        CHECK.same("the first one", t.dashed(597870), "......");
        CHECK.same("the last one", t.dashed(597870 - 507), dashed(597870 - 507, 2 * (507 % 32)));
        CHECK.same("and no more: by the rule", t.dashed(597870 - 508), "...i-tm");
        Justline u = new Justline();
        for (int n = 0; n < 255; n++) {
            u.exception(597870 - n, 2 * (n % 32));
        }
        for (int n = 0; n < 255; n++) {
            CHECK.same("told", u.exception(597870 - n, -1), 2 * (n % 32));
        }
        CHECK.same("none", u.house(5), 0);
    }

    private static String dashed(int code, int places) {
        String text = Model.text(code);
        StringBuilder all = new StringBuilder();
        for (int p = 0; p < text.length(); p++) {
            all.append((places >> p & 1) == 1 ? "-" : "").append(text.charAt(p));
        }
        return all.toString();
    }
}
