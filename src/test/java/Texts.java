/** What several tests need to make texts and to see that a call changed nothing. */
final class Texts {
    static final int LEFT = 0;
    static final int RIGHT = 1;
    static final int BOTH = 2;
    static final int MIDDLE = 3;

    static int code(String word) {
        int code = 0;
        for (char sign : word.toCharArray()) {
            code = 9 * code + "aeilmotw.".indexOf(sign) + 1;
        }
        return code;
    }

    /** Types words with a blank between; behind one may stand ">" or "/". */
    static void type(Justline t, int paragraph, String words) {
        for (String word : words.split(" ")) {
            int last = word.length() - 1;
            int space = word.charAt(last) == '>' ? 1 : word.charAt(last) == '/' ? 2 : 0;
            t.type(paragraph, code(space == 0 ? word : word.substring(0, last)), space);
        }
    }

    /** A text with lines so wide, and one paragraph. */
    static Justline plain(int wide, int align, int first, int hang, String words) {
        Justline t = new Justline();
        t.set(0, wide);
        t.paragraph(0, align, first, hang);
        type(t, 0, words);
        return t;
    }

    static String times(int many, String word) {
        return (word + " ").repeat(many).trim();
    }

    static String lines(Justline t, int paragraph) {
        StringBuilder all = new StringBuilder();
        for (int n = 0; n < t.lines(paragraph); n++) {
            all.append(n > 0 ? "|" : "").append(t.line(paragraph, n));
        }
        return all.toString();
    }

    /** What shows most changes in two calls: an object has 512 of them. */
    static String brief(Justline t) {
        return t.digest() + " " + t.changed();
    }

    /** All that one can ask of a small text without a change. */
    static String state(Justline t) {
        StringBuilder all = new StringBuilder();
        all.append(t.digest()).append(' ').append(t.changed());
        for (int i = 0; i < t.house(0); i++) {
            all.append('\n').append(t.typed(i)).append(t.marker(i)).append(lines(t, i));
        }
        for (int n = 0; n < t.pages(); n++) {
            all.append('\n').append(t.page(n));
        }
        for (int x = 0; x <= 60; x++) {
            all.append(t.nearest(x, true)).append(' ');
        }
        return all.toString();
    }
}
