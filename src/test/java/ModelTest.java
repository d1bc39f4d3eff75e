/** All promises: runs of calls, right and wrong ones, are answered as Model answers them. */
public final class ModelTest {
    private static final int RUNS = 1500;
    private static final int CALLS = 512;
    private static final int[] ODD_CODES = {1, 2, 8, 9, 10, 11, 45, 90, 819, 820, 7380, 66429, 66430, 597869, 597870};

    private final Check check;
    private final int run;
    private final Justline text = new Justline();
    private final Model model = new Model();
    private final int[] liked = new int[6];
    private long seed;
    private int calls;
    private String story = "";

    private ModelTest(Check check, int run) {
        this.check = check;
        this.run = run;
        this.seed = 77 + run * 7919L;
        for (int k = 0; k < liked.length; k++) {
            liked[k] = anyCode();
        }
    }

    public static void main(String[] args) {
        Check check = new Check("ModelTest");
        for (int run = 0; run < RUNS; run++) {
            new ModelTest(check, run).runs();
        }
        check.end();
    }

    private int next(int bound) {
        seed = seed * 6364136223846793005L + 1442695040888963407L;
        return (int) ((seed >>> 33) % bound);
    }

    /** Mostly from a to b, now and then just beyond or far away. */
    private int some(int a, int b) {
        int dice = next(60);
        if (dice == 0) {
            return a - 1;
        }
        if (dice == 1) {
            return b + 1;
        }
        if (dice == 2) {
            return next(2) == 0 ? Integer.MIN_VALUE : Integer.MAX_VALUE;
        }
        return a + next(b - a + 1);
    }

    private int anyCode() {
        switch (next(4)) {
            case 0: return 1 + next(9);
            case 1: return 1 + next(7380);
            default: return 1 + next(597870);
        }
    }

    private int code() {
        int dice = next(40);
        if (dice == 0) {
            return ODD_CODES[next(ODD_CODES.length)];
        }
        return dice == 1 ? some(1, 597870) : dice < 20 ? liked[next(liked.length)] : anyCode();
    }

    private int par() {
        return some(0, Math.max(0, model.pars.size() - 1));
    }

    private int wordOf(int p) {
        boolean isThere = p >= 0 && p < model.pars.size();
        return some(0, isThere ? Math.max(0, model.pars.get(p).words.size() - 1) : 3);
    }

    private int lineOf(int p) {
        boolean isThere = p >= 0 && p < model.pars.size();
        return some(0, isThere ? Math.max(0, model.lines(p) - 1) : 3);
    }

    /** One call; what those behind the 512th one answer is free. */
    private void same(String what, Check.Call got, Check.Call due) {
        calls++;
        if (calls > CALLS) {
            return;
        }
        story = story + "; " + what;
        String gotten = Check.outcome(got);
        String wanted = Check.outcome(due);
        check.same("run " + run + ": " + (gotten.equals(wanted) ? what : story), gotten, wanted);
    }

    private void runs() {
        int changes = 5 + next(60);
        for (int k = 0; k < changes; k++) {
            for (int n = next(3); n >= 0; n--) {
                change();
            }
            for (int n = next(4); n > 0; n--) {
                ask();
            }
        }
        same("digest", text::digest, model::digest);
        all();
    }

    private void change() {
        int p = par();
        int a = code();
        switch (next(20)) {
            case 0: case 1: {
                int kind = some(0, 3), align = some(0, 3), first = some(0, 6), hang = some(0, 6);
                same("paragraph(" + kind + "," + align + "," + first + "," + hang + ")",
                    () -> text.paragraph(kind, align, first, hang), () -> model.paragraph(kind, align, first, hang));
                break;
            }
            case 2: {
                int level = some(1, 3), style = some(0, 2), align = some(0, 3);
                same("item(" + level + "," + style + "," + align + ")",
                    () -> text.item(level, style, align), () -> model.item(level, style, align));
                break;
            }
            case 3: case 4: case 5: case 6: {
                int space = some(0, 2);
                same("type(" + p + "," + a + "," + space + ")",
                    () -> text.type(p, a, space), () -> model.type(p, a, space));
                break;
            }
            case 7: case 8: case 9: {
                int from = some(0, 597869), step = next(3) == 0 ? next(50) : some(0, 597869), many = some(1, 24);
                same("sow(" + p + "," + from + "," + step + "," + many + ")",
                    () -> text.sow(p, from, step, many), () -> model.sow(p, from, step, many));
                break;
            }
            case 10: {
                int many = next(2) == 0 ? some(1, 24) : 1 + next(4);
                same("rub(" + p + "," + many + ")", () -> text.rub(p, many), () -> model.rub(p, many));
                break;
            }
            case 11: {
                int w = wordOf(p);
                same("retype(" + p + "," + w + "," + a + ")",
                    () -> text.retype(p, w, a), () -> model.retype(p, w, a));
                break;
            }
            case 12: case 13: {
                int w = wordOf(p), other = next(3) == 0 ? -1 : code();
                same("note(" + p + "," + w + "," + a + "," + other + ")",
                    () -> text.note(p, w, a, other), () -> model.note(p, w, a, other));
                break;
            }
            case 14: {
                if (next(3) == 0) {
                    same("drop(" + p + ")", () -> text.drop(p), () -> model.drop(p));
                }
                break;
            }
            case 15: {
                int to = par();
                same("move(" + p + "," + to + ")", () -> text.move(p, to), () -> model.move(p, to));
                break;
            }
            case 16: {
                int what = some(0, 4);
                int[] lows = {24, 6, 0, 0, 0}, highs = {60, 24, 99, 2, 1};
                int at = Math.floorMod(what, 5);
                int value = some(lows[at], next(2) == 0 ? lows[at] + (highs[at] - lows[at]) / 3 : highs[at]);
                same("set(" + what + "," + value + ")", () -> text.set(what, value), () -> model.set(what, value));
                break;
            }
            case 17: {
                int places = next(3) == 0 ? -1 : some(-1, 63) & (next(3) == 0 ? -1 : ~1);
                same("exception(" + a + "," + places + ")",
                    () -> text.exception(a, places), () -> model.exception(a, places));
                break;
            }
            case 18: {
                int x = some(1, 59), kind = some(-1, 3);
                same("stop(" + x + "," + kind + ")", () -> text.stop(x, kind), () -> model.stop(x, kind));
                break;
            }
            default: {
                if (next(2) == 0) {
                    same("keep", text::keep, model::keep);
                } else {
                    same("knock", text::knock, model::knock);
                }
                break;
            }
        }
    }

    private void ask() {
        int p = par();
        int a = code();
        switch (next(20)) {
            case 0: same("typed(" + p + ")", () -> text.typed(p), () -> model.typed(p)); break;
            case 1: {
                int nth = some(0, 24);
                same("word(" + p + "," + nth + ")", () -> text.word(p, nth), () -> model.word1(p, nth));
                break;
            }
            case 2: same("dashed(" + a + ")", () -> text.dashed(a), () -> model.dashed(a)); break;
            case 3: same("width(" + a + ")", () -> text.width(a), () -> model.width(a)); break;
            case 4: same("index(" + a + ")", () -> text.index(a), () -> model.index(a)); break;
            case 5: same("lines(" + p + ")", () -> text.lines(p), () -> model.lines(p)); break;
            case 6: case 7: {
                int n = lineOf(p);
                same("line(" + p + "," + n + ")", () -> text.line(p, n), () -> model.line(p, n));
                same("mirrored(" + p + "," + n + ")", () -> text.mirrored(p, n), () -> model.mirrored(p, n));
                break;
            }
            case 8: case 9: {
                int n = lineOf(p), what = some(0, 9);
                same("ofLine(" + p + "," + n + "," + what + ")",
                    () -> text.ofLine(p, n, what), () -> model.ofLine(p, n, what));
                break;
            }
            case 10: same("badness(" + p + ",t)", () -> text.badness(p, true), () -> model.badness(p, true)); break;
            case 11: same("badness(" + p + ",f)", () -> text.badness(p, false), () -> model.badness(p, false)); break;
            case 12: same("fits(" + p + ")", () -> text.fits(p), () -> model.fits(p)); break;
            case 13: {
                int lines = next(2) == 0 ? some(1, 99) : 1 + next(20);
                same("would(" + p + "," + lines + ")", () -> text.would(p, lines), () -> model.would(p, lines));
                break;
            }
            case 14: same("rivers(" + p + ")", () -> text.rivers(p), () -> model.rivers(p)); break;
            case 15: same("marker(" + p + ")", () -> text.marker(p), () -> model.marker(p)); break;
            case 16: {
                int x = some(0, 60);
                boolean isUp = next(2) == 0;
                same("nearest(" + x + "," + isUp + ")", () -> text.nearest(x, isUp), () -> model.nearest(x, isUp));
                break;
            }
            case 17: askPage(); break;
            case 18: {
                int w = wordOf(p);
                same("notePage(" + p + "," + w + ")", () -> text.notePage(p, w), () -> model.notePage(p, w));
                break;
            }
            default: {
                int columns = some(1, 6), what = some(0, 9);
                same("even(" + columns + ")", () -> text.even(columns), () -> model.even(columns));
                same("house(" + what + ")", () -> text.house(what), () -> model.house(what));
                same("changed", text::changed, model::changed);
                break;
            }
        }
    }

    private void askPage() {
        same("pages", text::pages, model::pages);
        int n = some(0, Math.max(0, model.pages() - 1)), nth = some(0, 11), what = some(0, 6);
        same("page(" + n + ")", () -> text.page(n), () -> model.page(n));
        same("pageLine(" + n + "," + nth + ")", () -> text.pageLine(n, nth), () -> model.pageLine(n, nth));
        same("ofPage(" + n + "," + what + ")", () -> text.ofPage(n, what), () -> model.ofPage(n, what));
    }

    /** All that one can ask at the end of a run. */
    private void all() {
        for (int i = 0; i < model.pars.size(); i++) {
            int p = i;
            same("typed(" + p + ")", () -> text.typed(p), () -> model.typed(p));
            for (int k = 0; k < model.lines(p); k++) {
                int n = k;
                same("line(" + p + "," + n + ")", () -> text.line(p, n), () -> model.line(p, n));
            }
            for (int k = 1; k <= 12; k++) {
                int lines = k;
                same("would(" + p + "," + lines + ")", () -> text.would(p, lines), () -> model.would(p, lines));
            }
        }
        for (int k = 0; k < model.pages(); k++) {
            int n = k;
            same("page(" + n + ")", () -> text.page(n), () -> model.page(n));
        }
        for (int k = 1; k <= 6; k++) {
            int columns = k;
            same("even(" + columns + ")", () -> text.even(columns), () -> model.even(columns));
        }
    }
}
