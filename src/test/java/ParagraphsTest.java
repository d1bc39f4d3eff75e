/** Promises 2 to 10: paragraphs and their words. */
public final class ParagraphsTest {
    private static final int LAST = 597870;
    private static final Check CHECK = new Check("ParagraphsTest");

    public static void main(String[] args) {
        paragraph();
        item();
        type();
        sow();
        rub();
        retype();
        note();
        drop();
        move();
        sowEdges();
        rubEdges();
        retypeAll();
        noteEnds();
        dropEach();
        moveEach();
        CHECK.end();
    }

    private static Justline full() {
        Justline t = new Justline();
        for (int i = 0; i < 12; i++) {
            CHECK.same("paragraph " + i, t.paragraph(i % 4, i % 4, i % 7, 6 - i % 7), i);
        }
        return t;
    }

    private static void paragraph() {
        Justline t = full();
        CHECK.same("12", t.house(0), 12);
        CHECK.state(t, "a 13th", () -> t.paragraph(0, 0, 0, 0));
        CHECK.argument(t, "a 13th, wrong too", () -> t.paragraph(4, 0, 0, 0));
        Justline u = new Justline();
        int[][] wrong = {{-1, 0, 0, 0}, {4, 0, 0, 0}, {0, -1, 0, 0}, {0, 4, 0, 0}, {0, 0, -1, 0}, {0, 0, 7, 0},
            {0, 0, 0, -1}, {0, 0, 0, 7}, {Integer.MIN_VALUE, 0, 0, 0}, {0, 0, 0, Integer.MAX_VALUE}};
        for (int[] w : wrong) {
            CHECK.argument(u, "paragraph " + java.util.Arrays.toString(w),
                () -> u.paragraph(w[0], w[1], w[2], w[3]));
        }
        CHECK.same("the first one", u.paragraph(3, 3, 6, 6), 0);
        CHECK.same("behind it", u.paragraph(0, 0, 0, 0), 1);
        u.set(0, 24);
        Texts.type(u, 0, "t");
        Texts.type(u, 1, "a");
        CHECK.same("a HEAD has no FIRST", u.line(0, 0), " ".repeat(11) + "t");
        CHECK.same("pages", u.page(0), " ".repeat(11) + "t||a");
        u.paragraph(3, 0, 6, 6);
        Texts.type(u, 2, "wwww wwwww");
        CHECK.same("nor HANG", Texts.lines(u, 2), "wwww|wwwww");
    }

    private static void item() {
        Justline t = new Justline();
        int[][] wrong = {{0, 0, 0}, {4, 0, 0}, {1, -1, 0}, {1, 3, 0}, {1, 0, -1}, {1, 0, 4},
            {Integer.MAX_VALUE, 0, 0}, {1, Integer.MIN_VALUE, 0}};
        for (int[] w : wrong) {
            CHECK.argument(t, "item " + java.util.Arrays.toString(w), () -> t.item(w[0], w[1], w[2]));
        }
        CHECK.same("first item", t.item(1, 0, 0), 0);
        CHECK.same("second item", t.item(3, 2, 3), 1);
        Texts.type(t, 0, "a");
        Texts.type(t, 1, "a");
        CHECK.same("its line", t.line(0, 0), "1. a");
        // indent 6 + 2 + 1, room 31, gap 29, of that the half
        CHECK.same("MIDDLE", t.line(1, 0), "      i. " + " ".repeat(14) + "a");
        Justline u = full();
        CHECK.state(u, "a 13th", () -> u.item(1, 0, 0));
        CHECK.argument(u, "a 13th, wrong too", () -> u.item(0, 0, 0));
    }

    private static void type() {
        Justline t = new Justline();
        t.paragraph(2, 0, 0, 0);
        for (int n = 1; n <= 24; n++) {
            CHECK.same("type " + n, t.type(0, n == 1 ? LAST : n, n % 3), n);
        }
        CHECK.same("words", t.house(1), 24);
        CHECK.same("typed", t.typed(0).substring(0, 12), "......>e/i l");
        CHECK.state(t, "a 25th", () -> t.type(0, 1, 0));
        CHECK.argument(t, "a 25th, no code", () -> t.type(0, 0, 0));
        CHECK.index(t, "no paragraph, no code", () -> t.type(1, 0, 0));
        CHECK.index(t, "no paragraph", () -> t.type(-1, 1, 0));
        Justline u = new Justline();
        u.paragraph(0, 0, 0, 0);
        CHECK.argument(u, "code 0", () -> u.type(0, 0, 0));
        CHECK.argument(u, "code beyond", () -> u.type(0, LAST + 1, 0));
        CHECK.argument(u, "code far below", () -> u.type(0, Integer.MIN_VALUE, 0));
        CHECK.argument(u, "space -1", () -> u.type(0, 1, -1));
        CHECK.argument(u, "space 3", () -> u.type(0, 1, 3));
        CHECK.same("first", u.type(0, 10, 2), 1);
        CHECK.same("typed", u.typed(0), "aa/");
    }

    private static void sow() {
        Justline t = new Justline();
        t.paragraph(0, 0, 0, 0);
        CHECK.same("sow", t.sow(0, 597869, 1, 3), 3);
        CHECK.same("around the end", t.typed(0), "...... a e ");
        CHECK.same("the same again", t.sow(0, 9, 0, 2), 2);
        CHECK.same("the same", t.typed(0), "...... a e aa aa ");
        CHECK.same("greatest step", t.sow(0, 597869, 597869, 24), 19);
        CHECK.same("words", t.house(1), 24);
        CHECK.same("steps back", t.typed(0).substring(17, 31), "...... .....w ");
        CHECK.same("none any more", t.sow(0, 0, 0, 1), 0);
        CHECK.index(t, "no paragraph", () -> t.sow(1, -1, 0, 1));
        CHECK.index(t, "no paragraph", () -> t.sow(-1, 0, 0, 1));
        CHECK.argument(t, "from -1", () -> t.sow(0, -1, 0, 1));
        CHECK.argument(t, "from beyond", () -> t.sow(0, LAST, 0, 1));
        CHECK.argument(t, "step -1", () -> t.sow(0, 0, -1, 1));
        CHECK.argument(t, "step beyond", () -> t.sow(0, 0, LAST, 1));
        CHECK.argument(t, "many 0", () -> t.sow(0, 0, 0, 0));
        CHECK.argument(t, "many 25", () -> t.sow(0, 0, 0, 25));
    }

    private static void rub() {
        Justline t = Texts.plain(40, Texts.LEFT, 0, 0, "a e i o");
        t.note(0, 3, 1, -1);
        t.note(0, 0, 1, -1);
        CHECK.same("rub one", t.rub(0, 1), 3);
        CHECK.same("its note is gone", t.house(4), 1);
        t.type(0, 4, 0);
        CHECK.same("and does not come back", t.line(0, 0), "a* e i l");
        CHECK.argument(t, "many 0", () -> t.rub(0, 0));
        CHECK.argument(t, "many 25", () -> t.rub(0, 25));
        CHECK.index(t, "no paragraph", () -> t.rub(1, 0));
        CHECK.index(t, "no paragraph", () -> t.rub(-1, 1));
        CHECK.same("just all but one", t.rub(0, 3), 1);
        CHECK.same("all", t.rub(0, 24), 0);
        CHECK.same("of none", t.rub(0, 1), 0);
        CHECK.same("no lines", t.lines(0), 0);
        CHECK.same("no notes", t.house(4), 0);
    }

    private static void retype() {
        Justline t = new Justline();
        t.paragraph(2, 0, 0, 0);
        Texts.type(t, 0, "male> to/ a");
        t.note(0, 1, 1, 2);
        CHECK.same("retype", t.retype(0, 0, LAST), "male");
        CHECK.same("retype the noted one", t.retype(0, 1, Texts.code("wit")), "to");
        CHECK.same("spaces stay", t.typed(0), "......>wit/a ");
        CHECK.same("the note stays", t.line(0, 0), "...... wit*");
        CHECK.same("the same one", t.retype(0, 2, 1), "a");
        CHECK.index(t, "no word", () -> t.retype(0, 3, 0));
        CHECK.index(t, "no word", () -> t.retype(0, -1, 1));
        CHECK.index(t, "no paragraph", () -> t.retype(1, 0, 1));
        CHECK.index(t, "no paragraph", () -> t.retype(-1, 0, 1));
        CHECK.argument(t, "code 0", () -> t.retype(0, 0, 0));
        CHECK.argument(t, "code beyond", () -> t.retype(0, 0, LAST + 1));
    }

    private static void note() {
        Justline t = Texts.plain(40, Texts.LEFT, 0, 0, "a e i");
        t.paragraph(0, 0, 0, 0);
        Texts.type(t, 1, "o");
        CHECK.argument(t, "code 0", () -> t.note(0, 0, 0, -1));
        CHECK.argument(t, "code -1", () -> t.note(0, 0, -1, -1));
        CHECK.argument(t, "code beyond", () -> t.note(0, 0, LAST + 1, -1));
        CHECK.argument(t, "other 0", () -> t.note(0, 0, 1, 0));
        CHECK.argument(t, "other -2", () -> t.note(0, 0, 1, -2));
        CHECK.argument(t, "other beyond", () -> t.note(0, 0, 1, LAST + 1));
        CHECK.same("one note", t.note(0, 2, LAST, LAST), 1);
        CHECK.state(t, "a second one of the word", () -> t.note(0, 2, 1, -1));
        CHECK.argument(t, "that, wrong too", () -> t.note(0, 2, 0, -1));
        CHECK.same("two notes", t.note(0, 0, 1, -1), 2);
        CHECK.state(t, "a third one", () -> t.note(0, 1, 1, -1));
        CHECK.index(t, "no word", () -> t.note(0, 3, 0, -1));
        CHECK.index(t, "no word", () -> t.note(0, -1, 1, -1));
        CHECK.index(t, "no paragraph", () -> t.note(2, 0, 1, -1));
        CHECK.index(t, "no paragraph", () -> t.note(-1, 0, 1, -1));
        CHECK.same("of another paragraph", t.note(1, 0, 1, 1), 1);
        CHECK.same("line", t.line(0, 0), "a* e i*");
        CHECK.same("notes of all", t.house(4), 3);
        CHECK.same("text", t.page(0), "a* e i*||o*|||||||* a|* ...... ......|* a a");
    }

    private static void drop() {
        Justline t = new Justline();
        for (int i = 0; i < 3; i++) {
            t.paragraph(0, 0, 0, 0);
            t.sow(i, i, 0, i + 1);
        }
        CHECK.index(t, "drop 3", () -> t.drop(3));
        CHECK.index(t, "drop -1", () -> t.drop(-1));
        CHECK.same("drop", t.drop(1), 2);
        CHECK.same("paragraphs", t.house(0), 2);
        CHECK.same("the one ahead", t.typed(0), "a ");
        CHECK.same("the one behind", t.typed(1), "i i i ");
        CHECK.same("a new one is empty", t.paragraph(0, 0, 0, 0), 2);
        CHECK.same("of words", t.typed(2), "");
        CHECK.same("of lines", t.lines(2), 0);
        CHECK.same("drop the first", t.drop(0), 1);
        CHECK.same("drop the last", t.drop(1), 0);
        CHECK.same("drop the last but none", t.drop(0), 3);
        CHECK.same("none", t.house(0), 0);
        CHECK.index(t, "drop of none", () -> t.drop(0));
    }

    private static void move() {
        Justline t = new Justline();
        for (int i = 0; i < 5; i++) {
            t.paragraph(0, 0, 0, 0);
            t.type(i, i + 1, 0);
        }
        CHECK.same("nowhere", t.move(2, 2), 0);
        CHECK.same("behind", t.move(1, 3), 3);
        CHECK.same("order", order(t), "a i l e m ");
        CHECK.same("ahead", t.move(4, 0), 5);
        CHECK.same("order", order(t), "m a i l e ");
        CHECK.same("next", t.move(0, 1), 2);
        CHECK.same("order", order(t), "a m i l e ");
        CHECK.same("from the first to the last", t.move(0, 4), 5);
        CHECK.same("order", order(t), "m i l e a ");
        int[][] wrong = {{5, 0}, {0, 5}, {-1, 0}, {0, -1}, {5, 5}, {Integer.MAX_VALUE, Integer.MIN_VALUE}};
        for (int[] w : wrong) {
            CHECK.index(t, "move " + w[0] + " " + w[1], () -> t.move(w[0], w[1]));
        }
    }

    private static Justline sown(int from, int step, int many) {
        Justline t = new Justline();
        t.paragraph(2, 0, 0, 0);
        CHECK.same("sown", t.sow(0, from, step, many), many);
        return t;
    }

    /** "1 + (from + k * step) modulo 597870": to its last one, just around, and around many times. */
    private static void sowEdges() {
        CHECK.same("the first code", sown(0, 0, 1).typed(0), "a ");
        CHECK.same("the last code", sown(LAST - 1, 0, 1).typed(0), "...... ");
        CHECK.same("to the last one", sown(LAST - 2, 1, 2).typed(0), ".....w ...... ");
        CHECK.same("around to the first one", sown(LAST - 2, 1, 3).typed(0), ".....w ...... a ");
        CHECK.same("a step to just around", sown(8, LAST - 8, 2).typed(0), ". a ");
        CHECK.same("a step to the last one", sown(8, LAST - 9, 2).typed(0), ". ...... ");
        CHECK.same("the greatest step is one back", sown(8, LAST - 1, 4).typed(0), ". w t o ");
        CHECK.same("back around", sown(1, LAST - 1, 4).typed(0), "e a ...... .....w ");
        Justline t = sown(LAST - 1, LAST - 1, 24);
        CHECK.same("24 at the greatest", t.word(0, 23), Model.text(LAST - 23));
        Justline u = sown(1, 300000, 24);
        for (int k = 0; k < 24; k++) {
            CHECK.same("word " + k, u.word(0, k), Model.text((int) (1 + (1 + k * 300000L) % LAST)));
        }
        CHECK.same("a blank behind each", u.lines(0), 1);
        CHECK.same("and no tab", sown(0, 1, 3).typed(0), "a e i ");
        for (int there = 20; there <= 24; there++) {
            Justline v = new Justline();
            v.paragraph(0, 0, 0, 0);
            for (int w = 0; w < there; w++) {
                v.type(0, 1, 0);
            }
            CHECK.same("4 more than " + there, v.sow(0, 1, 0, 4), Math.min(4, 24 - there));
            CHECK.same("those beyond 24 are left out", v.house(1), 24);
        }
    }

    /** "(all, if there are fewer)": one less than there are, as many, one more. */
    private static void rubEdges() {
        for (int many = 1; many <= 24; many++) {
            Justline t = new Justline();
            t.paragraph(0, 0, 0, 0);
            t.sow(0, 0, 1, 10);
            t.note(0, 9, 1, -1);
            t.note(0, 0, 1, -1);
            CHECK.same("rub " + many, t.rub(0, many), Math.max(0, 10 - many));
            CHECK.same("with their NOTES", t.house(4), many < 10 ? 1 : 0);
            StringBuilder due = new StringBuilder();
            for (int k = 0; k < 10 - many; k++) {
                due.append(Model.text(k + 1)).append(' ');
            }
            CHECK.same("the last ones", t.typed(0), due.toString());
        }
        CHECK.same("all of 24", sown(0, 0, 24).rub(0, 24), 0);
        CHECK.same("all but one of 24", sown(0, 0, 24).rub(0, 23), 1);
        CHECK.same("one of 24", sown(0, 0, 24).rub(0, 1), 23);
    }

    /** Each WORD of 24 with each SPACE, the first and the last ones with NOTES. */
    private static void retypeAll() {
        Justline t = new Justline();
        t.paragraph(2, 0, 0, 0);
        StringBuilder due = new StringBuilder();
        for (int w = 0; w < 24; w++) {
            t.type(0, w + 1, w % 3);
        }
        t.note(0, 0, 3, 4);
        t.note(0, 23, 5, -1);
        for (int w = 0; w < 24; w++) {
            CHECK.same("the one before", t.retype(0, w, LAST - w), Model.text(w + 1));
            due.append(Model.text(LAST - w)).append(" >/".charAt(w % 3));
        }
        CHECK.same("SPACES stay", t.typed(0), due.toString());
        CHECK.same("NOTES stay", t.house(4), 2);
        CHECK.same("of the first one", t.line(0, 0).substring(0, 7), "......*");
        CHECK.same("of the last one", t.ofLine(0, t.lines(0) - 1, 9), 1);
        CHECK.index(t, "the 25th", () -> t.retype(0, 24, 1));
    }

    /** The bounds of both WORDS of a NOTE, and what of them shows. */
    private static void noteEnds() {
        int[][] words = {{1, -1}, {LAST, -1}, {1, 1}, {1, LAST}, {LAST, 1}, {LAST, LAST}};
        for (int[] w : words) {
            Justline t = Texts.plain(40, Texts.LEFT, 0, 0, "a");
            CHECK.same("note", t.note(0, 0, w[0], w[1]), 1);
            CHECK.same("its line", t.pageLine(0, 11),
                "* " + Model.text(w[0]) + (w[1] == -1 ? "" : " " + Model.text(w[1])));
        }
        Justline u = new Justline();
        u.paragraph(0, 0, 0, 0);
        CHECK.index(u, "no WORD yet", () -> u.note(0, 0, 1, -1));
        u.sow(0, 0, 0, 24);
        CHECK.same("the last of 24", u.note(0, 23, 1, -1), 1);
        CHECK.index(u, "the 25th", () -> u.note(0, 24, 1, -1));
        CHECK.same("the first of 24", u.note(0, 0, 1, -1), 2);
    }

    /** "those behind it get numbers less by 1": each of 12. */
    private static void dropEach() {
        for (int dropped = 0; dropped < 12; dropped++) {
            Justline t = new Justline();
            StringBuilder due = new StringBuilder();
            for (int i = 0; i < 12; i++) {
                t.paragraph(0, 0, 0, 0);
                t.sow(i, i, 0, i + 1);
                due.append(i == dropped ? "" : t.typed(i));
            }
            CHECK.same("drop " + dropped, t.drop(dropped), dropped + 1);
            CHECK.same("the others", order(t), due.toString());
            CHECK.index(t, "the twelfth", () -> t.typed(11));
            CHECK.same("room for one", t.paragraph(0, 0, 0, 0), 11);
            CHECK.same("which is empty", t.typed(11), "");
        }
    }

    /** From each number to each one of 12: "how many PARAGRAPHS got another number by that". */
    private static void moveEach() {
        for (int from = 0; from < 12; from++) {
            for (int to = 0; to < 12; to++) {
                Justline t = new Justline();
                java.util.List<String> due = new java.util.ArrayList<>();
                for (int i = 0; i < 12; i++) {
                    t.paragraph(0, 0, 0, 0);
                    t.type(i, 10 + i, 0);
                    due.add(t.typed(i));
                }
                due.add(to, due.remove(from));
                CHECK.same("move " + from + " " + to, t.move(from, to), from == to ? 0 : Math.abs(to - from) + 1);
                CHECK.same("order", order(t), String.join("", due));
            }
        }
    }

    private static String order(Justline t) {
        StringBuilder all = new StringBuilder();
        for (int i = 0; i < t.house(0); i++) {
            all.append(t.typed(i));
        }
        return all.toString();
    }
}
