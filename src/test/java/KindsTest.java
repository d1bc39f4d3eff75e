/** Section 2, and what promises 2 to 9 and 29 tell of it: the edges of PARAGRAPHS, NOTES, lists, INDENT and ROOM. */
public final class KindsTest {
    private static final String[] ROMANS =
        {"i", "ii", "iii", "iv", "v", "vi", "vii", "viii", "ix", "x", "xi", "xii"};
    private static final Check CHECK = new Check("KindsTest");

    public static void main(String[] args) {
        twelveParagraphs();
        twentyFourWords();
        spacesMatterInTabbedAlone();
        spaceOfTheLastWord();
        twoNotes();
        noteIsOfTheLastPiece();
        listsOpenAndClose();
        kindsCloseLists();
        numbersOfItems();
        markersOfAll();
        numbersFollowTheOrder();
        quoteIndent();
        firstAndHang();
        noFirstAndHang();
        itemIndent();
        exactRoom();
        CHECK.end();
    }

    /** "at most 12 PARAGRAPHS": the twelfth, one more, and one more when one is dropped. */
    private static void twelveParagraphs() {
        Justline t = new Justline();
        for (int i = 0; i < 12; i++) {
            CHECK.same("number", i % 2 == 0 ? t.paragraph(i % 4, 3, 6, 6) : t.item(3, 2, 3), i);
        }
        CHECK.same("twelve", t.house(0), 12);
        CHECK.state(t, "a thirteenth one", () -> t.paragraph(0, 0, 0, 0));
        CHECK.state(t, "a thirteenth item", () -> t.item(1, 0, 0));
        CHECK.argument(t, "a thirteenth one of no kind", () -> t.paragraph(4, 0, 0, 0));
        CHECK.argument(t, "a thirteenth item of no level", () -> t.item(4, 0, 0));
        t.move(0, 11);
        CHECK.state(t, "moved, there are as many", () -> t.paragraph(0, 0, 0, 0));
        t.drop(5);
        CHECK.same("one less", t.item(1, 0, 0), 11);
        CHECK.state(t, "again", () -> t.item(1, 0, 0));
        for (int i = 0; i < 12; i++) {
            t.drop(0);
        }
        CHECK.same("none", t.house(0), 0);
        CHECK.same("the first again", t.paragraph(1, 1, 1, 1), 0);
    }

    /** "at most 24 WORDS": by type and sow, and again when some are rubbed. */
    private static void twentyFourWords() {
        Justline t = new Justline();
        t.paragraph(0, 0, 0, 0);
        CHECK.same("all at once", t.sow(0, 0, 0, 24), 24);
        CHECK.state(t, "one more", () -> t.type(0, 1, 0));
        CHECK.same("none more", t.sow(0, 0, 0, 1), 0);
        CHECK.same("none of many", t.sow(0, 0, 0, 24), 0);
        CHECK.same("one rubbed", t.rub(0, 1), 23);
        CHECK.same("one of many", t.sow(0, 1, 0, 24), 1);
        CHECK.same("the last one", t.word(0, 23), "e");
        CHECK.same("none behind it", t.word(0, 24), "");
        CHECK.same("two rubbed", t.rub(0, 2), 22);
        CHECK.same("one typed", t.type(0, 3, 0), 23);
        CHECK.same("the last one typed", t.type(0, 4, 0), 24);
        CHECK.state(t, "one too many", () -> t.type(0, 5, 0));
        CHECK.same("all of them", t.typed(0), "a ".repeat(22) + "i l ");
        CHECK.same("all but none", t.rub(0, 24), 0);
        CHECK.same("from none", t.sow(0, 2, 0, 23), 23);
        CHECK.same("one short", t.sow(0, 3, 0, 2), 1);
        t.paragraph(0, 0, 0, 0);
        CHECK.same("another paragraph", t.type(1, 1, 0), 1);
    }

    /** "Only in TABBED it matters which it is." */
    private static void spacesMatterInTabbedAlone() {
        for (int kind = 0; kind <= 4; kind++) {
            Justline[] texts = {new Justline(), new Justline(), new Justline()};
            for (int space = 0; space <= 2; space++) {
                Justline t = texts[space];
                t.set(0, 24);
                t.stop(20, 1);
                if (kind == 4) {
                    t.item(1, 0, 0);
                } else {
                    t.paragraph(kind, 0, 0, 0);
                }
                for (int w = 0; w < 6; w++) {
                    t.type(0, Texts.code("tttt"), space);
                }
            }
            boolean isOther = kind == 2;
            CHECK.same("tabs, kind " + kind, !Texts.lines(texts[1], 0).equals(Texts.lines(texts[0], 0)), isOther);
            CHECK.same("line ends, kind " + kind, !Texts.lines(texts[2], 0).equals(Texts.lines(texts[0], 0)), isOther);
            CHECK.same("page, kind " + kind, texts[2].page(0).equals(texts[0].page(0)), !isOther);
        }
    }

    /** "that of the last WORD does nothing": but it does when one is typed behind it. */
    private static void spaceOfTheLastWord() {
        for (int space = 0; space <= 2; space++) {
            Justline t = new Justline();
            t.paragraph(2, 0, 0, 0);
            t.stop(9, 0);
            t.type(0, 1, space);
            CHECK.same("one line", t.lines(0), 1);
            CHECK.same("nothing behind it", t.line(0, 0), "a");
            CHECK.same("its gap", t.ofLine(0, 0, 3), 38);
            CHECK.same("but it is kept", t.typed(0), "a" + " >/".charAt(space));
            t.type(0, 2, 0);
            String[] due = {"a e", "a       e", "a|e"};
            CHECK.same("with one behind it", Texts.lines(t, 0), due[space]);
            t.rub(0, 1);
            CHECK.same("as before", Texts.lines(t, 0), "a");
        }
    }

    /** "(at most 2 in a PARAGRAPH)", "one or two WORDS": again when one went away with its WORD. */
    private static void twoNotes() {
        Justline t = Texts.plain(40, Texts.LEFT, 0, 0, "a e i l");
        CHECK.same("the first", t.note(0, 1, 1, -1), 1);
        CHECK.same("the second", t.note(0, 3, 1, 2), 2);
        CHECK.state(t, "a third", () -> t.note(0, 0, 1, -1));
        CHECK.state(t, "one that has one", () -> t.note(0, 1, 1, -1));
        CHECK.same("one or two WORDS", t.page(0), "a e* i l*" + "|".repeat(10) + "* a|* a e");
        t.retype(0, 3, 5);
        CHECK.same("the NOTE stays", t.line(0, 0), "a e* i m*");
        t.rub(0, 1);
        CHECK.same("it goes with its WORD", t.house(4), 1);
        t.type(0, 4, 0);
        CHECK.same("and stays away", t.notePage(0, 3), -1);
        CHECK.same("one may be given again", t.note(0, 3, 3, -1), 2);
        CHECK.state(t, "a third", () -> t.note(0, 2, 1, -1));
        t.paragraph(0, 0, 0, 0);
        Texts.type(t, 1, "a e i");
        CHECK.same("each PARAGRAPH has its own", t.note(1, 0, 1, -1), 1);
        CHECK.same("two of them", t.note(1, 2, 1, -1), 2);
        CHECK.same("four in all", t.house(4), 4);
        t.drop(0);
        CHECK.same("gone with their PARAGRAPH", t.house(4), 2);
        CHECK.same("rubbed with all WORDS", t.rub(0, 24) + t.house(4), 0);
    }

    /** "Then * stands behind the WORD (it belongs to the last PIECE)". */
    private static void noteIsOfTheLastPiece() {
        Justline t = Texts.plain(24, Texts.LEFT, 0, 0, "wwwwww a malate");
        CHECK.same("without", Texts.lines(t, 0), "wwwwww a|malate");
        t.retype(0, 0, Texts.code("tttttt"));
        t.retype(0, 1, Texts.code("tttwt"));
        t.note(0, 2, 1, -1);
        // 6 + 1 + 7 + 1 + 9 are 24 with the dash; the last PIECE is "te*"
        CHECK.same("with one", Texts.lines(t, 0), "tttttt tttwt mala-|te*");
        CHECK.same("no gap", t.ofLine(0, 0, 3), 0);
        CHECK.same("its width", t.ofLine(0, 1, 0), 4);
        CHECK.same("the line that brings it", t.ofLine(0, 0, 9) * 10 + t.ofLine(0, 1, 9), 1);
        CHECK.same("the word without it", t.word(0, 2), "malate");
        CHECK.same("typed without it", t.typed(0), "tttttt tttwt malate ");
        CHECK.same("retyped without it", t.retype(0, 2, Texts.code("malate")), "malate");
    }

    private static String markers(Justline t) {
        StringBuilder all = new StringBuilder();
        for (int i = 0; i < t.house(0); i++) {
            all.append(i > 0 ? " " : "").append(t.marker(i));
        }
        return all.toString();
    }

    private static Justline items(int... levels) {
        Justline t = new Justline();
        for (int level : levels) {
            t.item(level, 0, 0);
        }
        return t;
    }

    /** "Each ITEM closes all open lists of greater LEVELS; then it is the next one .. or the first one". */
    private static void listsOpenAndClose() {
        CHECK.same("none ahead of the first", markers(items(1)), "1.");
        CHECK.same("of any level", markers(items(3)), "1.");
        CHECK.same("the next", markers(items(2, 2)), "1. 2.");
        CHECK.same("1 closes 2", markers(items(1, 2, 1, 2)), "1. 1. 2. 1.");
        CHECK.same("1 closes 3", markers(items(1, 3, 1, 3)), "1. 1. 2. 1.");
        CHECK.same("2 closes 3", markers(items(2, 3, 2, 3)), "1. 1. 2. 1.");
        CHECK.same("1 closes 2 and 3", markers(items(2, 3, 1, 3, 2)), "1. 1. 1. 1. 1.");
        CHECK.same("2 does not close 1", markers(items(1, 2, 1)), "1. 1. 2.");
        CHECK.same("3 does not close 1", markers(items(1, 3, 1)), "1. 1. 2.");
        CHECK.same("3 does not close 2", markers(items(2, 3, 2)), "1. 1. 2.");
        CHECK.same("3 closes none", markers(items(1, 2, 3, 2, 1)), "1. 1. 1. 2. 2.");
        CHECK.same("down and up", markers(items(3, 2, 1, 2, 3, 3, 1)), "1. 1. 1. 1. 1. 2. 2.");
        CHECK.same("each level by itself", markers(items(3, 3, 2, 2, 1, 1)), "1. 2. 1. 2. 1. 2.");
    }

    /** "PLAIN and HEAD close all; QUOTE and TABBED none": also without WORDS, at each LEVEL. */
    private static void kindsCloseLists() {
        for (int kind = 0; kind <= 3; kind++) {
            boolean isClosing = kind == 0 || kind == 3;
            for (int level = 1; level <= 3; level++) {
                Justline t = items(level);
                t.paragraph(kind, 0, 0, 0);
                t.item(level, 0, 0);
                CHECK.same("kind " + kind + ", level " + level, markers(t), isClosing ? "1.  1." : "1.  2.");
                t.sow(1, 5, 7, 9);
                CHECK.same("with words", markers(t), isClosing ? "1.  1." : "1.  2.");
                t.paragraph(kind, 0, 0, 0);
                t.move(3, 2);
                CHECK.same("two of them", markers(t), isClosing ? "1.   1." : "1.   2.");
            }
            Justline u = items(1, 2, 3);
            u.paragraph(kind, 0, 0, 0);
            u.item(3, 0, 0);
            u.item(2, 0, 0);
            u.item(1, 0, 0);
            CHECK.same("all three, kind " + kind, markers(u), "1. 1. 1.  " + (isClosing ? "1. 1. 1." : "2. 2. 2."));
        }
    }

    /** The STYLE is that of the ITEM, the number that of its list. */
    private static void numbersOfItems() {
        Justline t = new Justline();
        for (int i = 0; i < 12; i++) {
            t.item(1, i % 3, 0);
        }
        CHECK.same("each in its style", markers(t), "1. b. iii. 4. e. vi. 7. h. ix. 10. k. xii.");
        for (int style = 0; style <= 2; style++) {
            Justline u = new Justline();
            StringBuilder due = new StringBuilder();
            for (int n = 1; n <= 12; n++) {
                u.item(3, style, n % 4);
                String number = style == 0 ? "" + n : style == 1 ? "abcdefghijkl".substring(n - 1, n) : ROMANS[n - 1];
                due.append(n > 1 ? " " : "").append(number).append(".");
            }
            CHECK.same("style " + style, markers(u), due.toString());
        }
    }

    /** Of no ITEM there is none, whatever stands ahead. */
    private static void markersOfAll() {
        Justline t = items(1);
        for (int kind = 0; kind <= 3; kind++) {
            CHECK.same("kind " + kind, t.marker(t.paragraph(kind, 0, 0, 0)), "");
        }
        CHECK.same("an item without words has one", t.marker(0), "1.");
        CHECK.same("but no lines", t.lines(0), 0);
    }

    /** What one drops or moves changes the numbers of those behind. */
    private static void numbersFollowTheOrder() {
        Justline t = items(1, 2, 2, 1, 2);
        CHECK.same("at first", markers(t), "1. 1. 2. 2. 1.");
        t.drop(3);
        CHECK.same("one dropped", markers(t), "1. 1. 2. 3.");
        t.move(0, 2);
        CHECK.same("one moved", markers(t), "1. 2. 1. 1.");
        t.paragraph(0, 0, 0, 0);
        t.move(4, 1);
        CHECK.same("a PLAIN between", markers(t), "1.  1. 1. 1.");
        t.drop(1);
        CHECK.same("and away", markers(t), "1. 2. 1. 1.");
    }

    private static Justline one(int kind, int first, int hang, String words) {
        Justline t = new Justline();
        t.set(0, 24);
        t.paragraph(kind, 0, first, hang);
        Texts.type(t, 0, words);
        return t;
    }

    /** "of a QUOTE 4 more, and 4 less are left at its right". */
    private static void quoteIndent() {
        Justline t = one(1, 0, 0, "wwwwwt wwwwwt");
        CHECK.same("16 fit", Texts.lines(t, 0), "    wwwwwt|    wwwwwt");
        CHECK.same("just", t.ofLine(0, 0, 3) + t.house(3), 0);
        t.retype(0, 0, Texts.code("wwwwwa"));
        CHECK.same("17 do not", t.ofLine(0, 0, 3), -1);
        CHECK.same("one line", t.house(3), 1);
        CHECK.same("what is left at the right is no text", t.ofLine(0, 0, 0), 4 + 17);
        t.set(0, 25);
        CHECK.same("one more", t.ofLine(0, 0, 3), 0);
        Justline u = one(1, 6, 6, "www. www.");
        CHECK.same("10 fit with FIRST and HANG", u.ofLine(0, 0, 3) + u.ofLine(0, 1, 3), 0);
        CHECK.same("10 blanks", u.line(0, 1), " ".repeat(10) + "www.");
    }

    /** "of all FIRST for the first line, HANG for the others": both at 0 and 6. */
    private static void firstAndHang() {
        CHECK.same("0 and 0", Texts.lines(one(0, 0, 0, "wwwwww wwwwww wwwwww"), 0), "wwwwww|wwwwww|wwwwww");
        CHECK.same("6 and 0", Texts.lines(one(0, 6, 0, "wwwwww wwwwww wwwwww"), 0), "      wwwwww|wwwwww|wwwwww");
        CHECK.same("0 and 6", Texts.lines(one(0, 0, 6, "wwwwww wwwwww wwwwww"), 0),
            "wwwwww|      wwwwww|      wwwwww");
        CHECK.same("2 and 1", Texts.lines(one(0, 2, 1, "wwwwww wwwwww wwwwww"), 0), "  wwwwww| wwwwww| wwwwww");
        CHECK.same("QUOTE, 2 and 0", Texts.lines(one(1, 2, 0, "wwww wwww wwww"), 0), "      wwww|    wwww|    wwww");
        CHECK.same("QUOTE, 0 and 2", Texts.lines(one(1, 0, 2, "wwww wwww wwww"), 0), "    wwww|      wwww|      wwww");
    }

    /** "For TABBED and HEAD, FIRST and HANG count as 0", and for ITEMS there are none. */
    private static void noFirstAndHang() {
        CHECK.same("HEAD", Texts.lines(one(3, 6, 6, "wwwwww wwwwww"), 0), "wwwwww|wwwwww");
        CHECK.same("HEAD, as wide as told", one(3, 6, 6, "tttttt wwwwwa").ofLine(0, 0, 3), 0);
        CHECK.same("TABBED", Texts.lines(one(2, 6, 6, "wwwwww/ wwwwww"), 0), "wwwwww|wwwwww");
        CHECK.same("TABBED, its gap", one(2, 6, 6, "wwwwww").ofLine(0, 0, 3), 6);
    }

    /** "of an ITEM 3 * (LEVEL - 1), WIDTH of the MARKER, and 1": of each LEVEL, of a narrow and a wide MARKER. */
    private static void itemIndent() {
        for (int level = 1; level <= 3; level++) {
            Justline t = new Justline();
            t.set(0, 24);
            t.item(level, 0, 0);
            Texts.type(t, 0, "wwwww wwww");
            String ahead = " ".repeat(3 * (level - 1));
            CHECK.same("level " + level, Texts.lines(t, 0), ahead + "1. wwwww|" + ahead + "   wwww");
            CHECK.same("its gap", t.ofLine(0, 0, 3), 24 - 3 * (level - 1) - 3 - 15);
            CHECK.same("in the next line", t.ofLine(0, 1, 3), 24 - 3 * (level - 1) - 3 - 12);
        }
        Justline u = new Justline();
        u.set(0, 24);
        for (int i = 0; i < 10; i++) {
            u.item(1, 0, 0);
        }
        Texts.type(u, 8, "wwww wwww");
        Texts.type(u, 9, "wwww wwww");
        CHECK.same("the ninth", Texts.lines(u, 8), "9. wwww|   wwww");
        CHECK.same("the tenth", Texts.lines(u, 9), "10. wwww|    wwww");
        u.drop(0);
        CHECK.same("the tenth is the ninth", Texts.lines(u, 8), "9. wwww|   wwww");
        Justline v = new Justline();
        v.set(0, 24);
        for (int i = 0; i < 8; i++) {
            v.item(3, 2, 2);
        }
        Texts.type(v, 7, "wwww wwww");
        CHECK.same("the widest", Texts.lines(v, 7), "      viii. wwww|" + " ".repeat(12) + "wwww");
        CHECK.same("has no room left", v.ofLine(7, 0, 3), 0);
        // the MARKER is as wide as its signs: "a." 3, "b." 2
        Justline w = new Justline();
        w.set(0, 24);
        w.item(1, 1, 0);
        w.item(1, 1, 0);
        Texts.type(w, 0, "wwwwww wwwwww");
        Texts.type(w, 1, "wwwwww wwwwww");
        CHECK.same("a.", Texts.lines(w, 0), "a. wwwwww|    wwwwww");
        CHECK.same("b.", Texts.lines(w, 1), "b. wwwwww|   wwwwww");
        CHECK.same("their rooms", w.ofLine(0, 1, 3) * 10 + w.ofLine(1, 1, 3), 23);
    }

    /** ROOM, just filled and overfilled by 1, of each KIND that has one. */
    private static void exactRoom() {
        String[] full = {"tttttt wwwwwa", "wwwwwt", null, "tttttt wwwwwa", "tt wwwwww"};
        String[] over = {"tttttt wwwwww", "wwwwwa", null, "tttttt wwwwww", "ta wwwwww"};
        for (int kind = 0; kind <= 4; kind++) {
            if (full[kind] == null) {
                continue;
            }
            Justline t = new Justline();
            t.set(0, 24);
            Justline u = new Justline();
            u.set(0, 24);
            for (Justline v : new Justline[] {t, u}) {
                if (kind == 4) {
                    v.item(1, 0, 0);
                } else {
                    v.paragraph(kind, 0, 0, 0);
                }
            }
            Texts.type(t, 0, full[kind]);
            Texts.type(u, 0, over[kind]);
            CHECK.same("full, kind " + kind, t.lines(0) * 100 + t.ofLine(0, 0, 3), 100);
            CHECK.same("not too wide", t.house(3), 0);
            CHECK.same("over, kind " + kind, u.lines(0) + 10 * u.house(3), kind == 1 ? 11 : 2);
        }
    }
}
