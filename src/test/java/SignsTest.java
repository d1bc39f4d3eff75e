/** Section 1, and what promises 12 and 16 to 19 tell of it: SIGNS, CODES, WIDTHS and BREAK PLACES at their edges. */
public final class SignsTest {
    private static final String SIGNS = "aeilmotw.";
    private static final Check CHECK = new Check("SignsTest");

    public static void main(String[] args) {
        codes();
        everyWordOfTwo();
        widths();
        widthsInLines();
        everyPair();
        everyPlace();
        exceptionsOfOnePlace();
        exceptionsOfAllPlaces();
        justThose();
        exceptionIsOfOneWord();
        piecesOfAnException();
        CHECK.end();
    }

    /** "A WORD has 1 to 6 of them": the first and the last CODE of each length. */
    private static void codes() {
        Justline t = new Justline();
        int first = 1;
        int many = 9;
        for (int signs = 1; signs <= 6; signs++) {
            CHECK.same("first of " + signs, t.dashed(first), "a".repeat(signs));
            CHECK.same("last of " + signs, t.dashed(first + many - 1), ".".repeat(signs));
            first += many;
            many *= 9;
        }
        CHECK.same("the one behind the last one", first, 597871);
        CHECK.argument(t, "the one behind the last one", () -> t.dashed(597871));
        CHECK.argument(t, "the one ahead of the first one", () -> t.dashed(0));
        Object[][] told = {{1, "a"}, {9, "."}, {10, "aa"}, {11, "ae"}, {5, "m"}, {46, "ma"}, {418, "mal"},
            {3764, "ma-le"}, {597870, "......"}, {597869, ".....w"}, {18, "a."}, {19, "ea"}};
        for (Object[] one : told) {
            CHECK.same("code " + one[0], t.dashed((Integer) one[0]), one[1]);
        }
    }

    /** "9 * (the CODE of that word) + k + 1": each WORD of one SIGN with each SIGN behind it. */
    private static void everyWordOfTwo() {
        Justline t = new Justline();
        t.paragraph(0, 0, 0, 0);
        t.type(0, 1, 0);
        for (int one = 0; one < 9; one++) {
            CHECK.same("sign " + one, t.dashed(one + 1), "" + SIGNS.charAt(one));
            for (int two = 0; two < 9; two++) {
                String due = "" + SIGNS.charAt(one) + SIGNS.charAt(two);
                t.retype(0, 0, 9 * (one + 1) + two + 1);
                CHECK.same("signs " + one + " and " + two, t.word(0, 0), due);
            }
        }
    }

    /** "WIDTH of a sign", and that of a text is the sum. */
    private static void widths() {
        Justline t = new Justline();
        int[] due = {2, 2, 1, 1, 3, 2, 1, 3, 1};
        for (int sign = 0; sign < 9; sign++) {
            String one = "" + SIGNS.charAt(sign);
            CHECK.same("one " + one, t.width(Texts.code(one)), due[sign]);
            CHECK.same("six " + one, t.width(Texts.code(one.repeat(6))), 6 * due[sign]);
            CHECK.same("first " + one, t.width(Texts.code(one + "t")), due[sign] + 1);
            CHECK.same("last " + one, t.width(Texts.code("t" + one)), due[sign] + 1);
        }
        CHECK.same("all but three", t.width(Texts.code("aeilmo")), 11);
        CHECK.same("the other three", t.width(Texts.code("tw.")), 5);
        CHECK.same("the narrowest of six", t.width(Texts.code("ilt.ti")), 6);
        CHECK.same("the widest", t.width(Texts.code("mwmwmw")), 18);
        t.exception(Texts.code("male"), 14);
        CHECK.same("places do not count", t.width(Texts.code("male")), 8);
    }

    /** "also a blank, a dash, an asterisk, a digit, other letters": all of these are 1 wide. */
    private static void widthsInLines() {
        Justline t = Texts.plain(24, Texts.LEFT, 2, 0, "tttttt tttttt malate");
        CHECK.same("blanks and a dash", t.line(0, 0), "  tttttt tttttt ma-");
        CHECK.same("2 + 6 + 1 + 6 + 1 + 5 + 1", t.ofLine(0, 0, 0), 22);
        t.note(0, 0, 1, -1);
        CHECK.same("an asterisk", t.ofLine(0, 0, 0), 23);
        Justline u = new Justline();
        String[] letters = {"a", "b", "c", "d", "e", "f", "g", "h", "i", "j", "k", "l"};
        int[] ofLetters = {2, 1, 1, 1, 2, 1, 1, 1, 1, 1, 1, 1};
        for (int i = 0; i < 12; i++) {
            u.item(1, 1, 0);
            u.type(i, 7, 0);
            CHECK.same("item " + i, u.line(i, 0), letters[i] + ". t");
            CHECK.same("letter, point, blank, t", u.ofLine(i, 0, 0), ofLetters[i] + 3);
            CHECK.same("gap", u.ofLine(i, 0, 3), 40 - ofLetters[i] - 3);
        }
        Justline v = new Justline();
        int[] ofRomans = {1, 2, 3, 2, 1, 2, 3, 4, 2, 1, 2, 3};
        for (int i = 0; i < 12; i++) {
            v.item(1, 2, 0);
            v.type(i, 7, 0);
            CHECK.same("roman letters", v.ofLine(i, 0, 0), ofRomans[i] + 3);
        }
        Justline w = new Justline();
        for (int i = 0; i < 12; i++) {
            w.item(1, 0, 0);
            w.type(i, 7, 0);
            CHECK.same("digits", w.ofLine(i, 0, 0), (i < 9 ? 1 : 2) + 3);
        }
    }

    /** "the last one ahead is a, e, i or o, and the first one behind is l, m, t or w": each pair of SIGNS. */
    private static void everyPair() {
        Justline t = new Justline();
        for (char ahead : SIGNS.toCharArray()) {
            for (char behind : SIGNS.toCharArray()) {
                boolean isPlace = "aeio".indexOf(ahead) >= 0 && "lmtw".indexOf(behind) >= 0;
                String word = "." + ahead + behind + ".";
                String due = "." + ahead + (isPlace ? "-" : "") + behind + ".";
                CHECK.same(word, t.dashed(Texts.code(word)), due);
            }
        }
    }

    /** "at least 2 SIGNS are ahead of it and 2 behind": each place of WORDS of each length. */
    private static void everyPlace() {
        Justline t = new Justline();
        for (int signs = 2; signs <= 6; signs++) {
            for (int p = 1; p < signs; p++) {
                String ahead = "t".repeat(p - 1) + "a";
                String behind = "t".repeat(signs - p);
                boolean isPlace = p >= 2 && signs - p >= 2;
                CHECK.same("place " + p + " of " + signs, t.dashed(Texts.code(ahead + behind)),
                    ahead + (isPlace ? "-" : "") + behind);
            }
        }
        CHECK.same("one sign has none", t.dashed(1), "a");
        CHECK.same("each second one", t.dashed(Texts.code("tatata")), "ta-ta-ta");
        CHECK.same("not the first and the last one", t.dashed(Texts.code("atatat")), "ata-tat");
        CHECK.same("two of five", t.dashed(Texts.code("aoltt")), "ao-ltt");
        CHECK.same("the third of five", t.dashed(Texts.code("ttamt")), "tta-mt");
    }

    /** "a set of places of that WORD": each place alone, and the one just beyond. */
    private static void exceptionsOfOnePlace() {
        for (int signs = 1; signs <= 6; signs++) {
            Justline t = new Justline();
            String word = "t".repeat(signs);
            int code = Texts.code(word);
            int before = -1;
            for (int p = 1; p < signs; p++) {
                CHECK.same("told", t.exception(code, 1 << p), before);
                CHECK.same("place " + p + " of " + signs, t.dashed(code),
                    "t".repeat(p) + "-" + "t".repeat(signs - p));
                before = 1 << p;
            }
            int beyond = signs;
            CHECK.argument(t, "place 0 of " + signs, () -> t.exception(code, 1));
            CHECK.argument(t, "place " + signs + " of as many", () -> t.exception(code, 1 << beyond));
            CHECK.argument(t, "a far place of " + signs, () -> t.exception(code, 1 << 30));
            CHECK.argument(t, "-2", () -> t.exception(code, -2));
            CHECK.same("none of them", t.exception(code, 0), before);
            CHECK.same("the word whole", t.dashed(code), word);
            CHECK.same("no EXCEPTION any more", t.exception(code, -1), 0);
            CHECK.same("none to take back", t.exception(code, -1), -1);
        }
    }

    private static void exceptionsOfAllPlaces() {
        for (int signs = 1; signs <= 6; signs++) {
            Justline t = new Justline();
            int code = Texts.code("w".repeat(signs));
            int all = (1 << signs) - 2;
            CHECK.argument(t, "one more than all", () -> t.exception(code, all + 1));
            CHECK.argument(t, "two more than all", () -> t.exception(code, all + 2));
            CHECK.same("all", t.exception(code, all), -1);
            CHECK.same("all of " + signs, t.dashed(code), String.join("-", "w".repeat(signs).split("")));
            CHECK.same("all told", t.exception(code, 0), all);
        }
    }

    /** "it has just those that this tells": be they fewer, others, the same or more than those by the rule. */
    private static void justThose() {
        Justline t = new Justline();
        int code = Texts.code("malate");
        CHECK.same("by the rule", t.dashed(code), "ma-la-te");
        Object[][] told = {{0, "malate"}, {1 << 4, "mala-te"}, {1 << 3, "mal-ate"}, {2 + 32, "m-alat-e"},
            {4 + 16, "ma-la-te"}, {62, "m-a-l-a-t-e"}};
        for (Object[] one : told) {
            t.exception(code, (Integer) one[0]);
            CHECK.same("places " + one[0], t.dashed(code), one[1]);
            CHECK.same("one EXCEPTION, whatever it tells", t.house(5), 1);
        }
        t.exception(code, -1);
        CHECK.same("by the rule again", t.dashed(code), "ma-la-te");
        CHECK.same("no EXCEPTION", t.house(5), 0);
    }

    private static void exceptionIsOfOneWord() {
        Justline t = new Justline();
        t.exception(Texts.code("mala"), 2);
        CHECK.same("that word", t.dashed(Texts.code("mala")), "m-ala");
        CHECK.same("one more sign", t.dashed(Texts.code("malat")), "ma-lat");
        CHECK.same("one sign less", t.dashed(Texts.code("mal")), "mal");
        CHECK.same("the next code", t.dashed(Texts.code("mala") + 1), "ma-le");
        CHECK.same("the code before", t.dashed(Texts.code("mala") - 1), "mai.");
    }

    /** PIECES: as many as places and one; the whole WORD without any. The last one bears the asterisk. */
    private static void piecesOfAnException() {
        Justline t = Texts.plain(24, Texts.LEFT, 0, 0, "wwwwww");
        int code = Texts.code("wwwwww");
        CHECK.same("one piece", t.would(0, 1), 0);
        CHECK.same("not two", t.would(0, 2), -1);
        t.exception(code, 62);
        CHECK.same("six pieces", t.would(0, 6), 5 * 9 + 5 * 20 * 20);
        CHECK.same("not seven", t.would(0, 7), -1);
        t.note(0, 0, 1, -1);
        CHECK.same("the last line is free", t.would(0, 6), 5 * 9 + 5 * 20 * 20);
        Justline u = Texts.plain(24, Texts.LEFT, 6, 0, "wwwwww t");
        u.exception(code, 62);
        // room 18: the word fits as it is, but not with its asterisk; 5 signs with a dash do
        CHECK.same("without a note", Texts.lines(u, 0), " ".repeat(6) + "wwwwww|t");
        u.note(0, 0, 1, -1);
        CHECK.same("with a note", Texts.lines(u, 0), " ".repeat(6) + "wwwww-|w* t");
    }
}
