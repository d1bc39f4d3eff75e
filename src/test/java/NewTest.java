/** Promise 1: a new object. */
public final class NewTest {
    public static void main(String[] args) {
        Check check = new Check("NewTest");
        Justline t = new Justline();
        for (int what = 0; what <= 9; what++) {
            check.same("house " + what, t.house(what), 0);
        }
        check.same("pages", t.pages(), 0);
        check.same("changed", t.changed(), "?");
        check.same("even", t.even(1), 6);
        check.same("index", t.index(1), "");
        check.same("nearest", t.nearest(0, true), -1);
        check.same("isSound", t.isSound(), true);
        check.index("no paragraph", () -> t.lines(0));
        check.index("no page", () -> t.page(0));
        check.same("width", t.set(0, 24), 40);
        check.same("height", t.set(1, 6), 12);
        check.same("break cost", t.set(2, 0), 9);
        check.same("skip", t.set(3, 0), 1);
        check.same("head lines", t.set(4, 1), 0);
        check.same("knock", t.knock(), 1);
        check.end();
    }
}
