/** Promises 11 to 15: how all is set, what is kept, and the printer's door. */
public final class SettingsTest {
    private static final int LAST = 597870;
    private static final Check CHECK = new Check("SettingsTest");

    public static void main(String[] args) {
        set();
        exception();
        stop();
        keep();
        knock();
        allKnocks();
        eachSetting();
        keepsTexts();
        CHECK.end();
    }

    private static void set() {
        Justline t = Texts.plain(40, Texts.LEFT, 0, 0, "a");
        int[][] limits = {{24, 60}, {6, 24}, {0, 99}, {0, 2}, {0, 1}};
        int[] before = {40, 12, 9, 1, 0};
        for (int k = 0; k < 5; k++) {
            int what = k;
            CHECK.argument(t, "set " + k + " below", () -> t.set(what, limits[what][0] - 1));
            CHECK.argument(t, "set " + k + " beyond", () -> t.set(what, limits[what][1] + 1));
            CHECK.same("set " + k + " least", t.set(k, limits[k][0]), before[k]);
            CHECK.same("set " + k + " most", t.set(k, limits[k][1]), limits[k][0]);
            CHECK.same("set " + k + " back", t.set(k, before[k]), limits[k][1]);
        }
        CHECK.argument(t, "what -1", () -> t.set(-1, 24));
        CHECK.argument(t, "what 5", () -> t.set(5, 1));
        CHECK.argument(t, "far away", () -> t.set(0, Integer.MIN_VALUE));
        // each of them shows
        Justline u = Texts.plain(24, Texts.RIGHT, 0, 0, "a");
        CHECK.same("width 24", u.line(0, 0).length(), 23);
        u.set(0, 60);
        CHECK.same("width 60", u.line(0, 0).length(), 59);
        u.note(0, 0, 1, -1);
        CHECK.same("height 12", u.ofPage(0, 6), 12);
        u.set(1, 24);
        CHECK.same("height 24", u.ofPage(0, 6), 24);
        u.set(4, 1);
        CHECK.same("the line ahead", u.pageLine(0, 0), " ".repeat(59) + "1");
        u.paragraph(0, 0, 0, 0);
        u.type(1, 1, 0);
        CHECK.same("skip 1", u.ofPage(0, 2), 1);
        u.set(3, 2);
        CHECK.same("skip 2", u.ofPage(0, 2), 2);
        u.set(3, 0);
        CHECK.same("skip 0", u.ofPage(0, 2), 0);
        Justline v = Texts.plain(24, Texts.LEFT, 0, 0, "tttttt tttttt malate");
        CHECK.same("break cost 9", v.badness(0, false), 10);
        v.set(2, 99);
        CHECK.same("break cost 99", v.badness(0, false), 100);
        v.set(2, 0);
        CHECK.same("break cost 0", v.badness(0, false), 1);
    }

    private static void exception() {
        Justline t = new Justline();
        int male = Texts.code("male");
        CHECK.same("by the rule", t.dashed(male), "ma-le");
        CHECK.same("none yet", t.exception(male, -1), -1);
        CHECK.same("told", t.exception(male, 0), -1);
        CHECK.same("no places", t.dashed(male), "male");
        CHECK.same("one", t.house(5), 1);
        CHECK.same("other places", t.exception(male, 14), 0);
        CHECK.same("all places", t.dashed(male), "m-a-l-e");
        CHECK.same("still one", t.house(5), 1);
        CHECK.same("of another word", t.exception(LAST, 62), -1);
        CHECK.same("two", t.house(5), 2);
        CHECK.same("another word", t.dashed(LAST), ".-.-.-.-.-.");
        CHECK.argument(t, "a place beyond", () -> t.exception(male, 16));
        CHECK.argument(t, "place 0", () -> t.exception(male, 1));
        CHECK.argument(t, "places and place 0", () -> t.exception(male, 15));
        CHECK.argument(t, "-2", () -> t.exception(male, -2));
        CHECK.argument(t, "least", () -> t.exception(male, Integer.MIN_VALUE));
        CHECK.argument(t, "place 6", () -> t.exception(LAST, 64));
        CHECK.argument(t, "one sign has no place", () -> t.exception(1, 2));
        CHECK.argument(t, "code 0", () -> t.exception(0, -1));
        CHECK.argument(t, "code beyond", () -> t.exception(LAST + 1, 0));
        CHECK.same("one sign may have none", t.exception(1, 0), -1);
        CHECK.same("gone", t.exception(male, -1), 14);
        CHECK.same("by the rule again", t.dashed(male), "ma-le");
        CHECK.same("the others stay", t.exception(LAST, -1), 62);
        CHECK.same("the last one", t.exception(1, -1), 0);
        CHECK.same("none", t.house(5), 0);
        Justline u = Texts.plain(24, Texts.LEFT, 0, 0, "wwwwww malate");
        CHECK.same("lines by the rule", Texts.lines(u, 0), "wwwwww|malate");
        u.exception(Texts.code("malate"), 2);
        CHECK.same("lines by the exception", Texts.lines(u, 0), "wwwwww m-|alate");
        for (int n = 0; n < 400; n++) {
            CHECK.same("many", u.exception(Texts.code("aaaa") + n, 2), -1);
        }
        CHECK.same("many", u.house(5), 401);
        CHECK.same("the first of them", u.exception(Texts.code("malate"), -1), 2);
        CHECK.same("the last of them", u.exception(Texts.code("aaaa") + 399, -1), 2);
        CHECK.same("two less", u.house(5), 399);
    }

    private static void stop() {
        Justline t = new Justline();
        CHECK.same("none", t.stop(1, -1), -1);
        for (int kind = 0; kind <= 3; kind++) {
            CHECK.same("kind " + kind, t.stop(59, kind), kind - 1);
        }
        CHECK.same("one", t.house(6), 1);
        CHECK.same("the first place", t.stop(1, 2), -1);
        CHECK.same("two", t.house(6), 2);
        CHECK.argument(t, "x 0", () -> t.stop(0, 0));
        CHECK.argument(t, "x 60", () -> t.stop(60, 0));
        CHECK.argument(t, "x far", () -> t.stop(Integer.MIN_VALUE, 0));
        CHECK.argument(t, "kind -2", () -> t.stop(1, -2));
        CHECK.argument(t, "kind 4", () -> t.stop(1, 4));
        CHECK.same("gone", t.stop(59, -1), 3);
        CHECK.same("gone", t.stop(1, -1), 2);
        CHECK.same("none", t.house(6), 0);
    }

    private static void keep() {
        Justline t = new Justline();
        CHECK.same("no pages", t.keep(), 0);
        CHECK.same("nothing kept is no question any more", t.changed(), "");
        t.set(1, 6);
        t.set(0, 24);
        t.paragraph(0, 0, 0, 0);
        Texts.type(t, 0, Texts.times(14, "wwwwww"));
        CHECK.same("new pages", t.changed(), "0 1 2");
        CHECK.same("three pages", t.keep(), 3);
        CHECK.same("as kept", t.changed(), "");
        t.retype(0, 7, Texts.code("mmmmmm"));
        CHECK.same("the second one", t.changed(), "1");
        CHECK.same("kept anew", t.keep(), 3);
        CHECK.same("what was kept is gone", t.changed(), "");
    }

    private static void knock() {
        Justline t = new Justline();
        for (int n = 1; n <= 5; n++) {
            CHECK.same("knock", t.knock(), n);
            CHECK.same("house", t.house(8), n);
        }
        CHECK.same("nothing else", t.house(0) + t.pages(), 0);
    }

    /** All the calls that an object is used for. */
    private static void allKnocks() {
        Justline t = new Justline();
        for (int n = 1; n <= 511; n++) {
            CHECK.same("knock " + n, t.knock(), n);
        }
        CHECK.same("house", t.house(8), 511);
        Justline u = new Justline();
        CHECK.same("of each object", u.knock() + u.knock(), 3);
        CHECK.argument(u, "a refused call does not knock", () -> u.house(10));
        CHECK.same("the third", u.knock(), 3);
    }

    /** Each of the values that may be told, answered by the next call. */
    private static void eachSetting() {
        int[][] limits = {{24, 60}, {6, 24}, {0, 99}, {0, 2}, {0, 1}};
        int[] before = {40, 12, 9, 1, 0};
        Justline t = Texts.plain(40, Texts.LEFT, 0, 0, "a malate wwwwww");
        for (int what = 0; what < 5; what++) {
            int last = before[what];
            for (int value = limits[what][0]; value <= limits[what][1]; value++) {
                CHECK.same("set " + what + " to " + value, t.set(what, value), last);
                last = value;
            }
            CHECK.same("the same again", t.set(what, last), last);
        }
        CHECK.same("all at their most", t.page(0), " ".repeat(59) + "1|a malate wwwwww");
    }

    /** "the texts of all pages as they are now": as texts, with what stands ahead and at the foot. */
    private static void keepsTexts() {
        Justline t = Texts.plain(24, Texts.LEFT, 0, 0, "wwwwww wwwwww");
        t.set(1, 6);
        CHECK.same("one page", t.keep(), 1);
        t.note(0, 1, 1, -1);
        CHECK.same("a NOTE", t.changed(), "0");
        CHECK.same("kept with it", t.keep(), 1);
        CHECK.same("as it is", t.changed(), "");
        t.set(1, 7);
        CHECK.same("one empty line more", t.changed(), "0");
        t.set(1, 6);
        CHECK.same("as it was", t.changed(), "");
        t.set(4, 1);
        t.keep();
        t.set(4, 0);
        CHECK.same("the line ahead", t.changed(), "0");
        t.drop(0);
        CHECK.same("none there", t.changed(), "0");
        CHECK.same("none kept", t.keep(), 0);
        CHECK.same("none", t.changed(), "");
        CHECK.same("twice", t.keep(), 0);
    }
}
