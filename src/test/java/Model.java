import java.util.ArrayList;
import java.util.HashMap;
import java.util.List;
import java.util.Map;
import java.util.TreeMap;

/**
 * The document written down a second time, slowly and with the Java library: everything is found anew
 * from texts for each answer. The class is compared with it.
 */
final class Model {
    static final class Word {
        int code;
        int space;
        int[] note; // code and other, or null
    }

    static final class Par {
        int kind;
        int align;
        int first;
        int hang;
        int level;
        int style;
        List<Word> words = new ArrayList<>();
    }

    /** A line: its PIECES from, to (of the row of all), or for TABBED its WORDS. */
    static final class Row {
        int from;
        int end;
        String text;
        int gap;
        int bad;
        int firstWord;
        int lastWord;
        boolean within;
        List<int[]> blanks = new ArrayList<>(); // x, how many
        List<Integer> noted = new ArrayList<>(); // WORDS with NOTES that end in it
        List<Integer> ended = new ArrayList<>();
    }

    static final class Page {
        List<String> texts = new ArrayList<>();
        int lines;
        int notes;
        int empty;
        int[] first;
        boolean forced;
        List<int[]> shown = new ArrayList<>(); // PARAGRAPH, line
    }

    final List<Par> pars = new ArrayList<>();
    final int[] rules = {40, 12, 9, 1, 0};
    final int[][] limits = {{24, 60}, {6, 24}, {0, 99}, {0, 2}, {0, 1}};
    final TreeMap<Integer, Integer> exceptions = new TreeMap<>();
    final TreeMap<Integer, Integer> stops = new TreeMap<>();
    int knocks;
    List<String> kept;

    // what is found from all and holds until something changes
    private List<List<Row>> allRows;
    private List<Page> allPages;

    private void anew() {
        allRows = null;
        allPages = null;
    }

    private static void argument(boolean isGood) {
        if (!isGood) {
            throw new IllegalArgumentException();
        }
    }

    private static void state(boolean isGood) {
        if (!isGood) {
            throw new IllegalStateException();
        }
    }

    private static void bound(boolean isGood) {
        if (!isGood) {
            throw new IndexOutOfBoundsException();
        }
    }

    private static boolean in(int v, int a, int b) {
        return a <= v && v <= b;
    }

    private static boolean isCode(int code) {
        return in(code, 1, 597870);
    }

    private Par par(int i) {
        bound(in(i, 0, pars.size() - 1));
        return pars.get(i);
    }

    static String text(int code) {
        return code == 0 ? "" : text((code - 1) / 9) + "aeilmotw.".charAt((code - 1) % 9);
    }

    static int wide(String s) {
        int sum = 0;
        for (char c : s.toCharArray()) {
            sum += c == 'm' || c == 'w' ? 3 : c == 'a' || c == 'e' || c == 'o' ? 2 : 1;
        }
        return sum;
    }

    private List<String> parts(int code) {
        String s = text(code);
        List<String> parts = new ArrayList<>();
        int begin = 0;
        for (int p = 1; p < s.length(); p++) {
            boolean isPlace = exceptions.containsKey(code)
                ? (exceptions.get(code) & 1 << p) != 0
                : s.substring(0, p).matches("..*[aeio]") && s.substring(p).matches("[lmtw].+");
            if (isPlace) {
                parts.add(s.substring(begin, p));
                begin = p;
            }
        }
        parts.add(s.substring(begin));
        return parts;
    }

    // ---- promises

    int paragraph(int kind, int align, int first, int hang) {
        argument(in(kind, 0, 3) && in(align, 0, 3) && in(first, 0, 6) && in(hang, 0, 6));
        state(pars.size() < 12);
        Par p = new Par();
        p.kind = kind;
        p.align = align;
        p.first = first;
        p.hang = hang;
        pars.add(p);
        anew();
        return pars.size() - 1;
    }

    int item(int level, int style, int align) {
        argument(in(level, 1, 3) && in(style, 0, 2) && in(align, 0, 3));
        state(pars.size() < 12);
        Par p = new Par();
        p.kind = 4;
        p.align = align;
        p.level = level;
        p.style = style;
        pars.add(p);
        anew();
        return pars.size() - 1;
    }

    private static Word word(int code, int space) {
        Word w = new Word();
        w.code = code;
        w.space = space;
        return w;
    }

    int type(int i, int code, int space) {
        Par p = par(i);
        argument(isCode(code) && in(space, 0, 2));
        state(p.words.size() < 24);
        p.words.add(word(code, space));
        anew();
        return p.words.size();
    }

    int sow(int i, int from, int step, int many) {
        Par p = par(i);
        argument(in(from, 0, 597869) && in(step, 0, 597869) && in(many, 1, 24));
        int typed = 0;
        for (long k = 0; k < many && p.words.size() < 24; k++, typed++) {
            p.words.add(word((int) (1 + (from + k * step) % 597870), 0));
        }
        anew();
        return typed;
    }

    int rub(int i, int many) {
        Par p = par(i);
        argument(in(many, 1, 24));
        for (int k = 0; k < many && !p.words.isEmpty(); k++) {
            p.words.remove(p.words.size() - 1);
        }
        anew();
        return p.words.size();
    }

    String retype(int i, int w, int code) {
        Par p = par(i);
        bound(in(w, 0, p.words.size() - 1));
        argument(isCode(code));
        String before = text(p.words.get(w).code);
        p.words.get(w).code = code;
        anew();
        return before;
    }

    private static int notes(Par p) {
        return (int) p.words.stream().filter(w -> w.note != null).count();
    }

    int note(int i, int w, int code, int other) {
        Par p = par(i);
        bound(in(w, 0, p.words.size() - 1));
        argument(isCode(code) && (other == -1 || isCode(other)));
        state(p.words.get(w).note == null && notes(p) < 2);
        p.words.get(w).note = new int[] {code, other};
        anew();
        return notes(p);
    }

    int drop(int i) {
        Par p = par(i);
        pars.remove(i);
        anew();
        return p.words.size();
    }

    int move(int i, int to) {
        par(i);
        par(to);
        List<Par> before = new ArrayList<>(pars);
        pars.add(to, pars.remove(i));
        int other = 0;
        for (int k = 0; k < pars.size(); k++) {
            other += pars.get(k) != before.get(k) ? 1 : 0;
        }
        anew();
        return other;
    }

    int set(int what, int value) {
        argument(in(what, 0, 4) && in(value, limits[what][0], limits[what][1]));
        int before = rules[what];
        rules[what] = value;
        anew();
        return before;
    }

    int exception(int code, int places) {
        argument(isCode(code));
        argument(places == -1 || places >= 0 && (places & 1) == 0 && places >> text(code).length() == 0);
        Integer before = places == -1 ? exceptions.remove(code) : exceptions.put(code, places);
        anew();
        return before == null ? -1 : before;
    }

    int stop(int x, int kind) {
        argument(in(x, 1, 59) && in(kind, -1, 3));
        Integer before = kind == -1 ? stops.remove(x) : stops.put(x, kind);
        anew();
        return before == null ? -1 : before;
    }

    int keep() {
        kept = new ArrayList<>();
        for (Page page : book()) {
            kept.add(String.join("|", page.texts));
        }
        return kept.size();
    }

    int knock() {
        return ++knocks;
    }

    String typed(int i) {
        StringBuilder all = new StringBuilder();
        for (Word w : par(i).words) {
            all.append(text(w.code)).append(" >/".charAt(w.space));
        }
        return all.toString();
    }

    String word1(int i, int nth) {
        Par p = par(i);
        argument(nth >= 0);
        return nth < p.words.size() ? text(p.words.get(nth).code) : "";
    }

    String dashed(int code) {
        argument(isCode(code));
        return String.join("-", parts(code));
    }

    int width(int code) {
        argument(isCode(code));
        return wide(text(code));
    }

    String index(int code) {
        argument(isCode(code));
        List<String> found = new ArrayList<>();
        for (int n = 0; n < book().size(); n++) {
            boolean has = false;
            for (int[] at : book().get(n).shown) {
                for (int w : rows(at[0]).get(at[1]).ended) {
                    has |= pars.get(at[0]).words.get(w).code == code;
                }
            }
            if (has) {
                found.add("" + n);
            }
        }
        return String.join(" ", found);
    }

    int lines(int i) {
        par(i);
        return rows(i).size();
    }

    private Row row(int i, int nth) {
        par(i);
        bound(in(nth, 0, rows(i).size() - 1));
        return rows(i).get(nth);
    }

    String line(int i, int nth) {
        return row(i, nth).text;
    }

    String mirrored(int i, int nth) {
        return new StringBuilder(row(i, nth).text).reverse().toString();
    }

    int ofLine(int i, int nth, int what) {
        Row r = row(i, nth);
        argument(in(what, 0, 9));
        int widest = -1;
        int narrowest = -1;
        for (int[] b : r.blanks) {
            widest = Math.max(widest, b[1]);
            narrowest = narrowest == -1 ? b[1] : Math.min(narrowest, b[1]);
        }
        return new int[] {wide(r.text), r.firstWord, r.lastWord, r.gap, r.within ? 1 : 0, r.blanks.size(),
            widest, narrowest, pageOf(i, nth), r.noted.size()}[what];
    }

    private int pageOf(int i, int nth) {
        for (int n = 0; n < book().size(); n++) {
            for (int[] at : book().get(n).shown) {
                if (at[0] == i && at[1] == nth) {
                    return n;
                }
            }
        }
        throw new AssertionError();
    }

    int badness(int i, boolean isFit) {
        Par p = par(i);
        int sum = 0;
        if (p.kind != 2) {
            int from = 0;
            Flow flow = new Flow(p, i);
            for (int end : isFit ? flow.fit() : flow.best()) {
                sum += flow.bad(from, end);
                from = end;
            }
        }
        return sum;
    }

    int fits(int i) {
        Par p = par(i);
        return p.kind == 2 ? rows(i).size() : new Flow(p, i).fit().size();
    }

    int would(int i, int lines) {
        Par p = par(i);
        argument(in(lines, 1, 99));
        if (p.kind == 2) {
            return rows(i).size() == lines ? 0 : -1;
        }
        return new Flow(p, i).least(0, lines);
    }

    int rivers(int i) {
        par(i);
        List<Row> rows = rows(i);
        int found = 0;
        for (int n = 0; n + 2 < rows.size(); n++) {
            for (int x = 0; x < 700; x++) {
                found += isOver(rows.get(n), x) && isOver(rows.get(n + 1), x) && isOver(rows.get(n + 2), x) ? 1 : 0;
            }
        }
        return found;
    }

    private static boolean isOver(Row r, int x) {
        return r.blanks.stream().anyMatch(b -> b[0] <= x && x < b[0] + b[1]);
    }

    String marker(int i) {
        Par p = par(i);
        if (p.kind != 4) {
            return "";
        }
        Map<Integer, Integer> open = new TreeMap<>();
        for (int k = 0; k <= i; k++) {
            Par q = pars.get(k);
            if (q.kind == 0 || q.kind == 3) {
                open.clear();
            }
            if (q.kind == 4) {
                open.keySet().removeIf(level -> level > q.level);
                open.merge(q.level, 1, Integer::sum);
            }
        }
        int n = open.get(p.level);
        String[] roman = {"i", "ii", "iii", "iv", "v", "vi", "vii", "viii", "ix", "x", "xi", "xii"};
        return (p.style == 0 ? "" + n : p.style == 1 ? "" + "abcdefghijkl".charAt(n - 1) : roman[n - 1]) + ".";
    }

    int nearest(int x, boolean isUp) {
        argument(in(x, 0, 60));
        Integer found = isUp ? stops.ceilingKey(x) : stops.floorKey(x);
        return found == null ? -1 : found;
    }

    int pages() {
        return book().size();
    }

    private Page pageAt(int n) {
        bound(in(n, 0, book().size() - 1));
        return book().get(n);
    }

    String page(int n) {
        return String.join("|", pageAt(n).texts);
    }

    String pageLine(int n, int nth) {
        Page page = pageAt(n);
        bound(in(nth, 0, page.texts.size() - 1));
        return page.texts.get(nth);
    }

    int ofPage(int n, int what) {
        Page page = pageAt(n);
        argument(in(what, 0, 6));
        return new int[] {page.lines, page.notes, page.empty, page.first[0], page.first[1], page.forced ? 1 : 0,
            page.texts.size()}[what];
    }

    int notePage(int i, int w) {
        Par p = par(i);
        bound(in(w, 0, p.words.size() - 1));
        for (int n = 0; n < rows(i).size(); n++) {
            if (rows(i).get(n).noted.contains(w)) {
                return pageOf(i, n);
            }
        }
        return -1;
    }

    int even(int columns) {
        argument(in(columns, 1, 6));
        int height = 6;
        while (fill(height).size() > columns) {
            height++;
        }
        return height;
    }

    String changed() {
        if (kept == null) {
            return "?";
        }
        List<String> other = new ArrayList<>();
        for (int n = 0; n < Math.max(kept.size(), book().size()); n++) {
            if (n >= kept.size() || n >= book().size() || !kept.get(n).equals(page(n))) {
                other.add("" + n);
            }
        }
        return String.join(" ", other);
    }

    int house(int what) {
        argument(in(what, 0, 9));
        int words = 0;
        int lines = 0;
        int tooWide = 0;
        int notes = 0;
        int bad = 0;
        int within = 0;
        for (int i = 0; i < pars.size(); i++) {
            words += pars.get(i).words.size();
            notes += notes(pars.get(i));
            bad += badness(i, false);
            for (Row r : rows(i)) {
                lines++;
                tooWide += r.gap < 0 ? 1 : 0;
                within += r.within ? 1 : 0;
            }
        }
        return new int[] {pars.size(), words, lines, tooWide, notes, exceptions.size(), stops.size(), bad, knocks,
            within}[what];
    }

    boolean isSound() {
        return true;
    }

    long digest() {
        List<Integer> all = new ArrayList<>();
        for (int what = 0; what < 10; what++) {
            all.add(house(what));
        }
        for (int i = 0; i < pars.size(); i++) {
            all.addAll(List.of(lines(i), badness(i, false), badness(i, true), fits(i), would(i, 2), rivers(i),
                marker(i).length()));
            for (int n = 0; n < lines(i); n++) {
                for (int what = 0; what < 10; what++) {
                    all.add(ofLine(i, n, what));
                }
                all.add(line(i, n).length());
            }
        }
        all.add(pages());
        for (int n = 0; n < pages(); n++) {
            for (int what = 0; what < 7; what++) {
                all.add(ofPage(n, what));
            }
            all.add(page(n).length());
        }
        all.addAll(List.of(index(1).length(), changed().length(), even(2), nearest(20, true), nearest(20, false),
            isSound() ? 1 : 0));
        long d = 6007;
        for (int v : all) {
            d = d * 31 + v;
        }
        return d;
    }

    // ---- lines

    /** The row of all PIECES of a PARAGRAPH that is not TABBED, and its WAYS. */
    private final class Flow {
        final Par p;
        final String marker;
        final List<String> parts = new ArrayList<>();
        final List<Integer> owners = new ArrayList<>();
        final Map<Integer, Integer> leasts = new HashMap<>();

        Flow(Par p, int i) {
            this.p = p;
            this.marker = marker(i);
            for (int w = 0; w < p.words.size(); w++) {
                List<String> own = parts(p.words.get(w).code);
                for (int k = 0; k < own.size(); k++) {
                    boolean isNoted = k == own.size() - 1 && p.words.get(w).note != null;
                    parts.add(own.get(k) + (isNoted ? "*" : ""));
                    owners.add(w);
                }
            }
        }

        int indent(int from) {
            int own = from == 0 ? p.first : p.hang;
            if (p.kind == 3) {
                return 0;
            }
            if (p.kind == 4) {
                return 3 * (p.level - 1) + wide(marker) + 1;
            }
            return own + (p.kind == 1 ? 4 : 0);
        }

        int room(int from) {
            return rules[0] - indent(from) - (p.kind == 1 ? 4 : 0);
        }

        boolean within(int end) {
            return end < parts.size() && owners.get(end - 1).equals(owners.get(end));
        }

        List<String> joined(int from, int end) {
            List<String> words = new ArrayList<>();
            for (int k = from; k < end; k++) {
                if (k > from && owners.get(k).equals(owners.get(k - 1))) {
                    words.set(words.size() - 1, words.get(words.size() - 1) + parts.get(k));
                } else {
                    words.add(parts.get(k));
                }
            }
            if (within(end)) {
                words.set(words.size() - 1, words.get(words.size() - 1) + "-");
            }
            return words;
        }

        private final Map<Integer, Integer> gaps = new HashMap<>();

        int gap(int from, int end) {
            return gaps.computeIfAbsent(from * 1000 + end,
                k -> room(from) - wide(String.join(" ", joined(from, end))));
        }

        boolean isLet(int from, int end) {
            return gap(from, end) >= 0 || end == from + 1;
        }

        int bad(int from, int end) {
            int gap = gap(from, end);
            if (gap < 0) {
                return gap * gap + 1000 + (within(end) ? rules[2] : 0);
            }
            return (end == parts.size() ? 0 : gap * gap) + (within(end) ? rules[2] : 0);
        }

        List<Integer> fit() {
            List<Integer> ends = new ArrayList<>();
            int from = 0;
            while (from < parts.size()) {
                int most = from + 1;
                for (int end = from + 1; end <= parts.size(); end++) {
                    most = isLet(from, end) ? end : most;
                }
                ends.add(most);
                from = most;
            }
            return ends;
        }

        /** The least BADNESS of so many lines from a PIECE on, or -1. */
        int least(int from, int lines) {
            if (from == parts.size() || lines == 0) {
                return from == parts.size() && lines == 0 && from > 0 ? 0 : -1;
            }
            if (lines > parts.size() - from) {
                return -1;
            }
            Integer known = leasts.get(from * 1000 + lines);
            if (known != null) {
                return known;
            }
            int least = -1;
            for (int end = from + 1; end <= parts.size(); end++) {
                if (isLet(from, end)) {
                    int rest = least(end, lines - 1);
                    if (rest >= 0 && (least < 0 || rest + bad(from, end) < least)) {
                        least = rest + bad(from, end);
                    }
                }
            }
            leasts.put(from * 1000 + lines, least);
            return least;
        }

        /** From the first line on: of all ends that can still lead to the least BADNESS the last one. */
        List<Integer> best() {
            int[] rest = new int[parts.size() + 1];
            for (int from = parts.size() - 1; from >= 0; from--) {
                rest[from] = Integer.MAX_VALUE;
                for (int end = from + 1; end <= parts.size(); end++) {
                    if (isLet(from, end)) {
                        rest[from] = Math.min(rest[from], bad(from, end) + rest[end]);
                    }
                }
            }
            List<Integer> ends = new ArrayList<>();
            int from = 0;
            while (from < parts.size()) {
                int chosen = -1;
                for (int end = from + 1; end <= parts.size(); end++) {
                    if (isLet(from, end) && bad(from, end) + rest[end] == rest[from]) {
                        chosen = end;
                    }
                }
                ends.add(chosen);
                from = chosen;
            }
            return ends;
        }

        List<Row> rows() {
            List<Row> rows = new ArrayList<>();
            int from = 0;
            for (int end : best()) {
                rows.add(row(rows.size(), from, end));
                from = end;
            }
            return rows;
        }

        Row row(int number, int from, int end) {
            Row r = new Row();
            r.from = from;
            r.end = end;
            r.gap = gap(from, end);
            r.bad = bad(from, end);
            r.within = within(end);
            r.firstWord = owners.get(from);
            r.lastWord = owners.get(end - 1);
            for (int w = r.firstWord; w <= r.lastWord; w++) {
                if (w < r.lastWord || !r.within) {
                    r.ended.add(w);
                    if (p.words.get(w).note != null) {
                        r.noted.add(w);
                    }
                }
            }
            String ahead = " ".repeat(indent(from));
            if (number == 0 && p.kind == 4) {
                ahead = " ".repeat(3 * (p.level - 1)) + marker + " ";
            }
            if (r.gap > 0 && p.align == 1) {
                ahead += " ".repeat(r.gap);
            }
            if (r.gap > 0 && p.align == 3) {
                ahead += " ".repeat(r.gap / 2);
            }
            List<String> words = joined(from, end);
            int[] blanks = new int[words.size() - 1];
            java.util.Arrays.fill(blanks, 1);
            if (p.align == 2 && end < parts.size() && r.gap > 0 && blanks.length > 0) {
                // one blank after the other is given out, row by row, from the side that gets more
                for (int k = 0; k < r.gap; k++) {
                    int at = k % blanks.length;
                    blanks[number % 2 == 0 ? at : blanks.length - 1 - at]++;
                }
            }
            StringBuilder text = new StringBuilder(ahead);
            for (int k = 0; k < words.size(); k++) {
                if (k > 0) {
                    r.blanks.add(new int[] {wide(text.toString()), blanks[k - 1]});
                    text.append(" ".repeat(blanks[k - 1]));
                }
                text.append(words.get(k));
            }
            r.text = text.toString();
            return r;
        }
    }

    private List<Row> tabbed(Par p) {
        List<Row> rows = new ArrayList<>();
        int from = 0;
        for (int w = 0; w < p.words.size(); w++) {
            if (p.words.get(w).space == 2 || w == p.words.size() - 1) {
                rows.add(tabs(p, from, w + 1));
                from = w + 1;
            }
        }
        return rows;
    }

    private Row tabs(Par p, int from, int end) {
        Row r = new Row();
        r.from = from;
        r.end = end;
        r.firstWord = from;
        r.lastWord = end - 1;
        StringBuilder all = new StringBuilder();
        for (int w = from; w < end; w++) {
            boolean isNoted = p.words.get(w).note != null;
            r.ended.add(w);
            if (isNoted) {
                r.noted.add(w);
            }
            all.append(text(p.words.get(w).code)).append(isNoted ? "*" : "");
            if (w < end - 1) {
                all.append(p.words.get(w).space == 1 ? '>' : ' ');
            }
        }
        String line = "";
        String[] fields = all.toString().split(">", -1);
        for (int f = 0; f < fields.length; f++) {
            String field = fields[f];
            if (f > 0) {
                int at = wide(line);
                Map.Entry<Integer, Integer> stop = stops.higherEntry(at);
                int begin = at + 1;
                if (stop != null) {
                    String ahead = field.indexOf('.') >= 0 ? field.substring(0, field.indexOf('.')) : field;
                    int[] back = {0, wide(field), wide(field) / 2, wide(ahead)};
                    begin = Math.max(begin, stop.getKey() - back[stop.getValue()]);
                }
                line += " ".repeat(begin - at);
            }
            line += field;
        }
        r.text = line;
        for (int k = 0; k < line.length(); k++) {
            if (line.charAt(k) == ' ' && line.charAt(k - 1) != ' ') {
                int many = 1;
                while (line.charAt(k + many) == ' ') {
                    many++;
                }
                r.blanks.add(new int[] {wide(line.substring(0, k)), many});
            }
        }
        r.gap = rules[0] - wide(line);
        return r;
    }

    private List<Row> rows(int i) {
        if (allRows == null) {
            allRows = new ArrayList<>();
            for (int k = 0; k < pars.size(); k++) {
                Par p = pars.get(k);
                allRows.add(p.kind == 2 ? tabbed(p) : new Flow(p, k).rows());
            }
        }
        return allRows.get(i);
    }

    // ---- pages

    private List<String> noteTexts(Word w) {
        String one = "* " + text(w.note[0]);
        if (w.note[1] == -1) {
            return List.of(one);
        }
        String both = one + " " + text(w.note[1]);
        return wide(both) <= rules[0] ? List.of(both) : List.of(one, text(w.note[1]));
    }

    private List<String> noteTexts(List<int[]> lines) {
        List<String> texts = new ArrayList<>();
        for (int[] at : lines) {
            for (int w : rows(at[0]).get(at[1]).noted) {
                texts.addAll(noteTexts(pars.get(at[0]).words.get(w)));
            }
        }
        return texts;
    }

    private int empties(List<int[]> lines) {
        int n = 0;
        for (int k = 1; k < lines.size(); k++) {
            n += lines.get(k)[0] != lines.get(k - 1)[0] ? rules[3] : 0;
        }
        return n;
    }

    private int needs(List<int[]> lines) {
        return rules[4] + lines.size() + empties(lines) + noteTexts(lines).size();
    }

    private boolean isBad(List<int[]> lines) {
        int[] at = lines.get(lines.size() - 1);
        int many = rows(at[0]).size();
        return many >= 3 && (at[1] == 0 || at[1] == many - 2) || pars.get(at[0]).kind == 3 && at[1] == many - 1;
    }

    private List<List<int[]>> fill(int height) {
        forced.clear();
        List<int[]> left = new ArrayList<>();
        for (int i = 0; i < pars.size(); i++) {
            for (int n = 0; n < rows(i).size(); n++) {
                left.add(new int[] {i, n});
            }
        }
        List<List<int[]>> filled = new ArrayList<>();
        while (!left.isEmpty()) {
            int most = 1;
            while (most < left.size() && needs(left.subList(0, most + 1)) <= height) {
                most++;
            }
            int stays = most;
            if (most < left.size()) {
                while (stays > 0 && isBad(left.subList(0, stays))) {
                    stays--;
                }
                if (stays == 0) {
                    stays = most;
                    forced.add(filled.size());
                }
            }
            filled.add(new ArrayList<>(left.subList(0, stays)));
            left = new ArrayList<>(left.subList(stays, left.size()));
        }
        return filled;
    }

    private final List<Integer> forced = new ArrayList<>();

    private List<Page> book() {
        if (allPages != null) {
            return allPages;
        }
        List<Page> pages = new ArrayList<>();
        List<List<int[]>> filled = fill(rules[1]);
        String head = "";
        for (List<int[]> lines : filled) {
            Page page = new Page();
            page.forced = forced.contains(pages.size());
            page.shown = lines;
            page.first = lines.get(0);
            page.lines = lines.size();
            page.empty = empties(lines);
            for (int[] at : lines) {
                head = pars.get(at[0]).kind == 3 ? text(pars.get(at[0]).words.get(0).code) : head;
            }
            if (rules[4] == 1) {
                String number = "" + (pages.size() + 1);
                page.texts.add(head + " ".repeat(rules[0] - wide(head) - wide(number)) + number);
            }
            for (int k = 0; k < lines.size(); k++) {
                if (k > 0 && lines.get(k)[0] != lines.get(k - 1)[0]) {
                    for (int e = 0; e < rules[3]; e++) {
                        page.texts.add("");
                    }
                }
                page.texts.add(rows(lines.get(k)[0]).get(lines.get(k)[1]).text);
            }
            List<String> notes = noteTexts(lines);
            page.notes = notes.size();
            if (!notes.isEmpty()) {
                while (page.texts.size() + notes.size() < rules[1]) {
                    page.texts.add("");
                }
                page.texts.addAll(notes);
            }
            pages.add(page);
        }
        allPages = pages;
        return pages;
    }
}
