import java.util.ArrayList;
import java.util.Arrays;
import java.util.List;
import java.util.function.Supplier;

/**
 * All promises: each argument at its bounds, just beyond them and far away, in a text that is empty, in
 * one with a bit of all, and in one that is full. Of the exceptions that apply the one that the document
 * names first is thrown, and all stays as it was; at the bounds nothing is thrown.
 */
public final class RefusedTest {
    private static final String INDEX = "throws.IndexOutOfBoundsException";
    private static final String ARGUMENT = "throws.IllegalArgumentException";
    private static final String STATE = "throws.IllegalStateException";
    private static final int LEAST = Integer.MIN_VALUE;
    private static final int MOST = Integer.MAX_VALUE;
    private static final int LAST = 597870;
    private static final int WIDE = Texts.code("wwwwww");
    private static final int MALATE = Texts.code("malate");

    private static final int[] BOOLEANS = {0, 1};
    private static final int[] CODES = {0, 1, LAST, LAST + 1, LEAST, MOST};
    private static final int[] ALIGNS = {-1, 0, 3, 4};
    private static final int[] SPARES = {-1, 0, 6, 7};
    private static final int[] MANY = {0, 1, 24, 25, LEAST, MOST};
    private static final int[] PARAGRAPHS = {-1, 0, 1, 2, 3, 4, 11, 12, LEAST, MOST};
    private static final int[] WORDS = {-1, 0, 1, 2, 3, 23, 24, LEAST, MOST};

    private static final Check CHECK = new Check("RefusedTest");

    /** One call with its arguments. */
    private interface Act {
        Object of(Justline t, int[] a);
    }

    /** Whether the exception does not apply. */
    private interface Good {
        boolean is(Known k, int[] a);
    }

    private record Refusal(String exception, Good good) { }

    private record Promise(String name, Act act, int[][] edges, List<Refusal> refusals) { }

    /** A text and what of it the exceptions depend on, written down by hand. */
    private record Known(String name, Supplier<Justline> maker, int[] words, int[] lines, int[] texts,
            List<String> noted) {
        boolean hasParagraph(int i) {
            return i >= 0 && i < words.length;
        }

        boolean hasWord(int i, int w) {
            return w >= 0 && w < words[i];
        }

        boolean hasLine(int i, int n) {
            return n >= 0 && n < lines[i];
        }

        boolean hasPage(int n) {
            return n >= 0 && n < texts.length;
        }

        boolean takesNote(int i, int w) {
            long there = noted.stream().filter(at -> at.startsWith(i + ":")).count();
            return there < 2 && !noted.contains(i + ":" + w);
        }
    }

    public static void main(String[] args) {
        for (Known known : List.of(empty(), some(), full())) {
            known(known);
            String untouched = probe(known.maker.get());
            for (Promise promise : promises()) {
                all(known, promise, untouched);
            }
        }
        CHECK.end();
    }

    // ---- the three texts

    private static Known empty() {
        return new Known("empty", Justline::new, new int[0], new int[0], new int[0], List.of());
    }

    private static Justline makeSome() {
        Justline t = new Justline();
        t.set(0, 24);
        t.set(1, 6);
        t.set(3, 0);
        t.paragraph(0, 0, 0, 0);
        Texts.type(t, 0, "wwwwww wwwwww wwwwww");
        t.paragraph(0, 2, 1, 2);
        t.paragraph(2, 0, 0, 0);
        Texts.type(t, 2, "a/ a");
        t.item(1, 0, 0);
        Texts.type(t, 3, "wwwwww");
        t.note(0, 0, 1, -1);
        t.note(0, 2, 2, 3);
        t.note(3, 0, WIDE, -1);
        t.stop(1, 0);
        t.stop(59, 3);
        t.exception(MALATE, 8);
        t.keep();
        t.knock();
        t.set(2, 50);
        return t;
    }

    /** The fourth line is that of two, so it may end its page: behind it stand the NOTES of two lines. */
    private static Known some() {
        return new Known("some", RefusedTest::makeSome, new int[] {3, 0, 2, 1}, new int[] {3, 0, 2, 1},
            new int[] {6, 6}, List.of("0:0", "0:2", "3:0"));
    }

    private static Justline makeFull() {
        Justline t = new Justline();
        t.set(0, 24);
        t.set(1, 24);
        t.set(2, 99);
        t.set(3, 0);
        for (int i = 0; i < 12; i++) {
            t.paragraph(0, 0, 0, 0);
            t.sow(i, WIDE - 1, 0, 24);
            t.note(i, 23, 1, -1);
            t.note(i, 0, 1, -1);
        }
        for (int x = 1; x <= 59; x++) {
            t.stop(x, x % 4);
        }
        t.exception(WIDE, 0);
        t.keep();
        return t;
    }

    /**
     * A page takes 24 lines and NOTES: the first one gives back the last but one of 24, the second one
     * has two lines of that and its note ahead.
     */
    private static Known full() {
        int[] words = new int[12];
        Arrays.fill(words, 24);
        List<String> noted = new ArrayList<>();
        for (int i = 0; i < 12; i++) {
            noted.add(i + ":0");
            noted.add(i + ":23");
        }
        int[] texts = new int[FULL_TEXTS.length];
        System.arraycopy(FULL_TEXTS, 0, texts, 0, texts.length);
        return new Known("full", RefusedTest::makeFull, words, words, texts, noted);
    }

    private static final int[] FULL_TEXTS = fullTexts();

    /** By hand: lines are one text each, the first and the last of 24 bring one more. */
    private static int[] fullTexts() {
        List<Integer> pages = new ArrayList<>();
        int from = 0;
        while (from < 288) {
            int used = 0;
            int end = from;
            while (end < 288) {
                int needs = end % 24 == 0 || end % 24 == 23 ? 2 : 1;
                if (used + needs > 24) {
                    break;
                }
                used += needs;
                end++;
            }
            while (end < 288 && ((end - 1) % 24 == 0 || (end - 1) % 24 == 22)) {
                end--;
            }
            boolean hasNote = false;
            for (int k = from; k < end; k++) {
                hasNote |= k % 24 == 0 || k % 24 == 23;
            }
            pages.add(hasNote ? 24 : end - from);
            from = end;
        }
        return pages.stream().mapToInt(Integer::intValue).toArray();
    }

    /** That the texts are as they are told above. */
    private static void known(Known k) {
        Justline t = k.maker.get();
        CHECK.same(k.name + ": paragraphs", t.house(0), k.words.length);
        CHECK.same(k.name + ": notes", t.house(4), k.noted.size());
        CHECK.same(k.name + ": pages", t.pages(), k.texts.length);
        for (int i = 0; i < k.words.length; i++) {
            CHECK.same(k.name + ": lines of " + i, t.lines(i), k.lines[i]);
        }
        for (int n = 0; n < k.texts.length; n++) {
            CHECK.same(k.name + ": texts of " + n, t.ofPage(n, 6), k.texts[n]);
        }
    }

    // ---- the promises

    private static List<Promise> promises() {
        List<Promise> all = new ArrayList<>();
        all.addAll(makers());
        all.addAll(changers());
        all.addAll(settings());
        all.addAll(ofWords());
        all.addAll(ofLines());
        all.addAll(ofPages());
        return all;
    }

    private static boolean in(int v, int least, int most) {
        return v >= least && v <= most;
    }

    private static boolean isCode(int code) {
        return in(code, 1, LAST);
    }

    private static Refusal index(Good good) {
        return new Refusal(INDEX, good);
    }

    private static Refusal argument(Good good) {
        return new Refusal(ARGUMENT, good);
    }

    private static Refusal state(Good good) {
        return new Refusal(STATE, good);
    }

    private static Refusal paragraphThere() {
        return index((k, a) -> k.hasParagraph(a[0]));
    }

    private static Refusal wordThere() {
        return index((k, a) -> k.hasParagraph(a[0]) && k.hasWord(a[0], a[1]));
    }

    private static Refusal lineThere() {
        return index((k, a) -> k.hasParagraph(a[0]) && k.hasLine(a[0], a[1]));
    }

    private static Promise promise(String name, Act act, int[][] edges, Refusal... refusals) {
        return new Promise(name, act, edges, List.of(refusals));
    }

    private static int[][] edges(int[]... edges) {
        return edges;
    }

    private static int[] at(int... values) {
        return values;
    }

    private static List<Promise> makers() {
        return List.of(
            promise("paragraph", (t, a) -> t.paragraph(a[0], a[1], a[2], a[3]),
                edges(at(-1, 0, 3, 4), ALIGNS, SPARES, SPARES),
                argument((k, a) -> in(a[0], 0, 3) && in(a[1], 0, 3) && in(a[2], 0, 6) && in(a[3], 0, 6)),
                state((k, a) -> k.words.length < 12)),
            promise("paragraph far away", (t, a) -> t.paragraph(a[0], a[1], 0, 0),
                edges(at(LEAST, 0, MOST), at(LEAST, 0, MOST)),
                argument((k, a) -> a[0] == 0 && a[1] == 0), state((k, a) -> k.words.length < 12)),
            promise("paragraph farther away", (t, a) -> t.paragraph(0, 0, a[0], a[1]),
                edges(at(LEAST, 0, MOST), at(LEAST, 0, MOST)),
                argument((k, a) -> a[0] == 0 && a[1] == 0), state((k, a) -> k.words.length < 12)),
            promise("item", (t, a) -> t.item(a[0], a[1], a[2]),
                edges(at(0, 1, 3, 4, LEAST, MOST), at(-1, 0, 2, 3, LEAST, MOST), at(-1, 0, 3, 4, LEAST, MOST)),
                argument((k, a) -> in(a[0], 1, 3) && in(a[1], 0, 2) && in(a[2], 0, 3)),
                state((k, a) -> k.words.length < 12)));
    }

    private static List<Promise> changers() {
        return List.of(
            promise("type", (t, a) -> t.type(a[0], a[1], a[2]),
                edges(PARAGRAPHS, CODES, at(-1, 0, 2, 3, LEAST, MOST)),
                paragraphThere(), argument((k, a) -> isCode(a[1]) && in(a[2], 0, 2)),
                state((k, a) -> k.words[a[0]] < 24)),
            promise("sow", (t, a) -> t.sow(a[0], a[1], a[2], a[3]),
                edges(at(-1, 0, 4, 11, 12), at(-1, 0, LAST - 1, LAST), at(-1, 0, LAST - 1, LAST), at(0, 1, 24, 25)),
                paragraphThere(),
                argument((k, a) -> in(a[1], 0, LAST - 1) && in(a[2], 0, LAST - 1) && in(a[3], 1, 24))),
            promise("sow far away", (t, a) -> t.sow(0, a[0], a[1], a[2]),
                edges(at(LEAST, 0, MOST), at(LEAST, 0, MOST), at(LEAST, 1, MOST)),
                index((k, a) -> k.words.length > 0), argument((k, a) -> a[0] == 0 && a[1] == 0 && a[2] == 1)),
            promise("rub", (t, a) -> t.rub(a[0], a[1]), edges(PARAGRAPHS, MANY),
                paragraphThere(), argument((k, a) -> in(a[1], 1, 24))),
            promise("retype", (t, a) -> t.retype(a[0], a[1], a[2]), edges(PARAGRAPHS, WORDS, CODES),
                paragraphThere(), wordThere(), argument((k, a) -> isCode(a[2]))),
            promise("note", (t, a) -> t.note(a[0], a[1], a[2], a[3]),
                edges(at(-1, 0, 2, 3, 4, 11, 12), at(-1, 0, 1, 2, 3, 23, 24), at(0, 1, LAST, LAST + 1),
                    at(-2, -1, 0, 1, LAST, LAST + 1)),
                paragraphThere(), wordThere(),
                argument((k, a) -> isCode(a[2]) && (a[3] == -1 || isCode(a[3]))),
                state((k, a) -> k.takesNote(a[0], a[1]))),
            promise("note far away", (t, a) -> t.note(2, a[0], a[1], a[2]),
                edges(at(LEAST, 0, MOST), at(LEAST, 1, MOST), at(LEAST, -1, MOST)),
                index((k, a) -> k.words.length > 2 && a[0] == 0),
                argument((k, a) -> a[1] == 1 && a[2] == -1), state((k, a) -> k.takesNote(2, 0))),
            promise("drop", (t, a) -> t.drop(a[0]), edges(PARAGRAPHS), paragraphThere()),
            promise("move", (t, a) -> t.move(a[0], a[1]), edges(PARAGRAPHS, PARAGRAPHS),
                index((k, a) -> k.hasParagraph(a[0]) && k.hasParagraph(a[1]))));
    }

    private static boolean isSetting(int what, int value) {
        switch (what) {
            case 0: return in(value, 24, 60);
            case 1: return in(value, 6, 24);
            case 2: return in(value, 0, 99);
            case 3: return in(value, 0, 2);
            case 4: return in(value, 0, 1);
            default: return false;
        }
    }

    private static List<Promise> settings() {
        return List.of(
            promise("set", (t, a) -> t.set(a[0], a[1]),
                edges(at(-1, 0, 1, 2, 3, 4, 5, LEAST, MOST),
                    at(-1, 0, 1, 2, 3, 5, 6, 23, 24, 25, 60, 61, 99, 100, LEAST, MOST)),
                argument((k, a) -> isSetting(a[0], a[1]))),
            promise("exception", (t, a) -> t.exception(a[0], a[1]),
                edges(at(0, 1, 9, 10, 90, 91, 819, 820, 7380, 7381, 66429, 66430, MALATE, LAST, LAST + 1, LEAST, MOST),
                    at(-2, -1, 0, 1, 2, 3, 4, 6, 8, 14, 16, 30, 32, 62, 63, 64, 126, LEAST, LEAST + 2, MOST, MOST - 1)),
                argument((k, a) -> isCode(a[0])),
                argument((k, a) -> a[1] == -1 || isPlaces(signs(a[0]), a[1]))),
            promise("stop", (t, a) -> t.stop(a[0], a[1]),
                edges(at(-1, 0, 1, 59, 60, LEAST, MOST), at(-2, -1, 0, 3, 4, LEAST, MOST)),
                argument((k, a) -> in(a[0], 1, 59) && in(a[1], -1, 3))),
            promise("keep", (t, a) -> t.keep(), edges()),
            promise("knock", (t, a) -> t.knock(), edges()));
    }

    private static int signs(int code) {
        return Model.text(code).length();
    }

    /** Place by place: each of the set has to be 1 to how many SIGNS there are, less 1. */
    private static boolean isPlaces(int signs, int places) {
        if (places < 0) {
            return false;
        }
        for (int p = 0; p < 31; p++) {
            if ((places & 1 << p) != 0 && !in(p, 1, signs - 1)) {
                return false;
            }
        }
        return true;
    }

    private static List<Promise> ofWords() {
        Refusal isCode = argument((k, a) -> isCode(a[0]));
        return List.of(
            promise("typed", (t, a) -> t.typed(a[0]), edges(PARAGRAPHS), paragraphThere()),
            promise("word", (t, a) -> t.word(a[0], a[1]), edges(PARAGRAPHS, WORDS),
                paragraphThere(), argument((k, a) -> a[1] >= 0)),
            promise("dashed", (t, a) -> t.dashed(a[0]), edges(CODES), isCode),
            promise("width", (t, a) -> t.width(a[0]), edges(CODES), isCode),
            promise("index", (t, a) -> t.index(a[0]), edges(CODES), isCode));
    }

    private static List<Promise> ofLines() {
        return List.of(
            promise("lines", (t, a) -> t.lines(a[0]), edges(PARAGRAPHS), paragraphThere()),
            promise("line", (t, a) -> t.line(a[0], a[1]), edges(PARAGRAPHS, WORDS), paragraphThere(), lineThere()),
            promise("mirrored", (t, a) -> t.mirrored(a[0], a[1]), edges(PARAGRAPHS, WORDS),
                paragraphThere(), lineThere()),
            promise("ofLine", (t, a) -> t.ofLine(a[0], a[1], a[2]),
                edges(PARAGRAPHS, WORDS, at(-1, 0, 9, 10, LEAST, MOST)),
                paragraphThere(), lineThere(), argument((k, a) -> in(a[2], 0, 9))),
            promise("badness", (t, a) -> t.badness(a[0], a[1] == 1), edges(PARAGRAPHS, BOOLEANS), paragraphThere()),
            promise("fits", (t, a) -> t.fits(a[0]), edges(PARAGRAPHS), paragraphThere()),
            promise("would", (t, a) -> t.would(a[0], a[1]), edges(PARAGRAPHS, at(-1, 0, 1, 99, 100, LEAST, MOST)),
                paragraphThere(), argument((k, a) -> in(a[1], 1, 99))),
            promise("rivers", (t, a) -> t.rivers(a[0]), edges(PARAGRAPHS), paragraphThere()),
            promise("marker", (t, a) -> t.marker(a[0]), edges(PARAGRAPHS), paragraphThere()),
            promise("nearest", (t, a) -> t.nearest(a[0], a[1] == 1), edges(at(-1, 0, 60, 61, LEAST, MOST), BOOLEANS),
                argument((k, a) -> in(a[0], 0, 60))));
    }

    private static List<Promise> ofPages() {
        int[] pages = {-1, 0, 1, 2, FULL_TEXTS.length - 1, FULL_TEXTS.length, LEAST, MOST};
        int[] texts = {-1, 0, 5, 6, 23, 24, LEAST, MOST};
        Refusal pageThere = index((k, a) -> k.hasPage(a[0]));
        return List.of(
            promise("pages", (t, a) -> t.pages(), edges()),
            promise("page", (t, a) -> t.page(a[0]), edges(pages), pageThere),
            promise("pageLine", (t, a) -> t.pageLine(a[0], a[1]), edges(pages, texts),
                pageThere, index((k, a) -> in(a[1], 0, k.texts[a[0]] - 1))),
            promise("ofPage", (t, a) -> t.ofPage(a[0], a[1]), edges(pages, at(-1, 0, 6, 7, LEAST, MOST)),
                pageThere, argument((k, a) -> in(a[1], 0, 6))),
            promise("notePage", (t, a) -> t.notePage(a[0], a[1]), edges(PARAGRAPHS, WORDS),
                paragraphThere(), wordThere()),
            promise("even", (t, a) -> t.even(a[0]), edges(at(-1, 0, 1, 6, 7, LEAST, MOST)),
                argument((k, a) -> in(a[0], 1, 6))),
            promise("changed", (t, a) -> t.changed(), edges()),
            promise("house", (t, a) -> t.house(a[0]), edges(at(-1, 0, 9, 10, LEAST, MOST)),
                argument((k, a) -> in(a[0], 0, 9))),
            promise("isSound", (t, a) -> t.isSound(), edges()),
            promise("digest", (t, a) -> t.digest(), edges()));
    }

    // ---- all calls

    private static void all(Known known, Promise promise, String untouched) {
        int many = 1;
        for (int[] edge : promise.edges) {
            many *= edge.length;
        }
        for (int n = 0; n < many; n++) {
            int[] a = new int[promise.edges.length];
            int rest = n;
            for (int k = 0; k < a.length; k++) {
                a[k] = promise.edges[k][rest % promise.edges[k].length];
                rest /= promise.edges[k].length;
            }
            one(known, promise, a, untouched);
        }
    }

    private static void one(Known known, Promise promise, int[] a, String untouched) {
        String due = null;
        for (Refusal refusal : promise.refusals) {
            if (due == null && !refusal.good.is(known, a)) {
                due = refusal.exception;
            }
        }
        String what = known.name + ": " + promise.name + Arrays.toString(a);
        Justline t = known.maker.get();
        String got = Check.outcome(() -> promise.act.of(t, a));
        if (due == null) {
            CHECK.holds(what + " is no wrong call, but " + got, !got.startsWith("throws."));
        } else {
            CHECK.same(what, got, due);
            CHECK.same(what + " changes nothing", probe(t), untouched);
        }
    }

    /** All that a text can tell: what one may ask, and then what each setting answers when it is changed. */
    private static String probe(Justline t) {
        StringBuilder all = new StringBuilder();
        all.append(t.digest()).append(' ').append(t.changed());
        int paragraphs = t.house(0);
        for (int i = 0; i < paragraphs; i++) {
            all.append('\n').append(t.typed(i)).append(t.marker(i));
        }
        int pages = t.pages();
        for (int n = 0; n < pages; n++) {
            all.append('\n').append(t.page(n));
        }
        all.append('\n').append(t.exception(WIDE, -1)).append(t.exception(MALATE, -1)).append(t.exception(1, -1));
        for (int x = 1; x <= 59; x++) {
            all.append(' ').append(t.stop(x, -1));
        }
        int[] values = {60, 24, 0, 2, 1};
        for (int k = 0; k < values.length; k++) {
            all.append(' ').append(t.set(k, values[k]));
        }
        return all.append('\n').append(t.knock()).append(' ').append(t.digest()).toString();
    }
}
