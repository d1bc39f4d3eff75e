/** A head, a paragraph with a note, and a list: its lines, its page, and which pages a change makes others. */
public class Example {
    /** The CODE of a WORD: 1 to 6 of the signs a, e, i, l, m, o, t, w and the point. */
    static int code(String word) {
        int code = 0;
        for (char sign : word.toCharArray()) {
            code = 9 * code + "aeilmotw.".indexOf(sign) + 1;
        }
        return code;
    }

    static void type(Justline text, int paragraph, String words) {
        for (String word : words.split(" ")) {
            text.type(paragraph, code(word), 0);      // 0: a blank behind each
        }
    }

    public static void main(String[] args) {
        Justline text = new Justline();
        text.set(0, 24);                              // lines 24 wide
        text.set(4, 1);                               // a line ahead of each page
        type(text, text.paragraph(3, 3, 0, 0), "tomato time");       // HEAD, in the MIDDLE
        int plain = text.paragraph(0, 2, 2, 0);       // PLAIN, set by BOTH, its first line 2 to the right
        type(text, plain, "we ate late meal at a motel. a mole ate tomato at a mall. we met a mate.");
        text.note(plain, 6, code("oat"), code("meal"));              // to the WORD "motel."
        type(text, text.item(1, 0, 0), "a tomato");   // ITEMS of a list that is counted 1, 2
        type(text, text.item(1, 0, 0), "oat");

        for (int n = 0; n < text.lines(plain); n++) {
            System.out.println(text.line(plain, n) + "|");
        }
        System.out.println("badness " + text.badness(plain, false) + ", by the first line that fits "
            + text.badness(plain, true));
        System.out.println("rivers " + text.rivers(plain) + ", even in two columns " + text.even(2));
        System.out.println(text.dashed(code("tomato")) + " on page " + text.index(code("tomato")));
        System.out.println(text.page(0).replace('|', '\n'));

        text.keep();
        text.exception(code("motel."), 0);            // not to be broken any more
        System.out.println("other pages: " + text.changed());
        try {
            text.line(plain, 99);
        } catch (IndexOutOfBoundsException e) {
            System.out.println("no such line");
        }
    }
}
