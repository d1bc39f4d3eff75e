/** A text set in lines and pages; ../shared/DOC.md tells what each method promises. */
public final class Justline {
    private static final int NONE = -1;

    private static final int QUOTE = 1;
    private static final int TABBED = 2;
    private static final int HEAD = 3;
    private static final int ITEM = 4;

    private static final int RIGHT = 1;
    private static final int BOTH = 2;
    private static final int MIDDLE = 3;

    private static final int TAB = 1;
    private static final int LINE_END = 2;

    private static final int STOP_RIGHT = 1;
    private static final int STOP_MIDDLE = 2;
    private static final int STOP_POINT = 3;
    private static final int LAST_STOP = 59;

    private static final int LAST_CODE = 597870;
    private static final int MOST_SIGNS = 6;
    private static final int MOST_PARAGRAPHS = 12;
    private static final int MOST_WORDS = 24;
    private static final int MOST_PIECES = MOST_WORDS * MOST_SIGNS;
    private static final int MOST_LINES = MOST_PARAGRAPHS * MOST_PIECES;
    private static final int MOST_NOTES = 2;
    private static final int MOST_EXCEPTIONS = 512;
    private static final int MOST_TEXTS = 64;
    private static final int MOST_X = 640;
    private static final int MOST_HEIGHT = 4096;
    private static final int LEAST_HEIGHT = 6;
    private static final int RIVER_LINES = 3;

    private static final int WIDTH = 0;
    private static final int HEIGHT = 1;
    private static final int BREAK_COST = 2;
    private static final int SKIP = 3;
    private static final int HEAD_LINES = 4;
    private static final int RULES = 5;

    private final Paragraph[] order;
    private final Paragraph copy;
    private final BreakTable breaks;
    private final Row stops;
    private final Row rules;
    private final Setter setter;
    private final Book book;
    private final Line shown;
    private final Line again;
    private final Sheet sheet;
    private final Row covered;
    private final Row covering;
    private final StringBuilder answer;
    private final StringBuilder kept;
    private final Row keptStarts;
    private int keptPages;
    private int count;
    private int knocks;
    private boolean isStale;

    public Justline() {
        order = new Paragraph[MOST_PARAGRAPHS];
        for (int i = 0; i < order.length; i++) {
            order[i] = new Paragraph();
        }
        copy = new Paragraph();
        breaks = new BreakTable();
        stops = new Row(LAST_STOP + 1);
        rules = new Row(RULES);
        rules.put(WIDTH, 40);
        rules.put(HEIGHT, 12);
        rules.put(BREAK_COST, 9);
        rules.put(SKIP, 1);
        setter = new Setter();
        book = new Book();
        shown = new Line();
        again = new Line();
        sheet = new Sheet();
        covered = new Row(MOST_X);
        covering = new Row(MOST_X);
        answer = new StringBuilder();
        kept = new StringBuilder();
        keptStarts = new Row(MOST_LINES + 1);
        keptPages = NONE;
    }

    // ---- paragraphs

    public int paragraph(int kind, int align, int first, int hang)
            throws IllegalArgumentException, IllegalStateException {
        if (!isWithin(kind, 0, HEAD) || !isWithin(align, 0, MIDDLE)
                || !isWithin(first, 0, 6) || !isWithin(hang, 0, 6)) {
            throw new IllegalArgumentException("kind, align, first or hang");
        }
        if (count >= MOST_PARAGRAPHS) {
            throw new IllegalStateException("12 paragraphs");
        }
        boolean isIndented = kind != TABBED && kind != HEAD;
        slot(count).begin(kind, align, isIndented ? first : 0, isIndented ? hang : 0);
        count++;
        isStale = true;
        return count - 1;
    }

    public int item(int level, int style, int align)
            throws IllegalArgumentException, IllegalStateException {
        if (!isWithin(level, 1, 3) || !isWithin(style, 0, 2) || !isWithin(align, 0, MIDDLE)) {
            throw new IllegalArgumentException("level, style or align");
        }
        if (count >= MOST_PARAGRAPHS) {
            throw new IllegalStateException("12 paragraphs");
        }
        slot(count).begin(ITEM, align, 0, 0);
        slot(count).listAs(level, style);
        count++;
        isStale = true;
        return count - 1;
    }

    public int type(int paragraph, int code, int space)
            throws IndexOutOfBoundsException, IllegalArgumentException, IllegalStateException {
        Paragraph p = asked(paragraph);
        if (!Words.isCode(code) || !isWithin(space, 0, LINE_END)) {
            throw new IllegalArgumentException("code or space");
        }
        if (p.count >= MOST_WORDS) {
            throw new IllegalStateException("24 words");
        }
        p.add(code, space);
        isStale = true;
        return p.count;
    }

    public int sow(int paragraph, int from, int step, int many)
            throws IndexOutOfBoundsException, IllegalArgumentException {
        Paragraph p = asked(paragraph);
        if (!isWithin(from, 0, LAST_CODE - 1) || !isWithin(step, 0, LAST_CODE - 1)
                || !isWithin(many, 1, MOST_WORDS)) {
            throw new IllegalArgumentException("from, step or many");
        }
        int typed = Math.min(many, MOST_WORDS - p.count);
        for (int k = 0; k < typed; k++) {
            p.add(1 + (from + k * step) % LAST_CODE, 0);
        }
        isStale = true;
        return typed;
    }

    public int rub(int paragraph, int many)
            throws IndexOutOfBoundsException, IllegalArgumentException {
        Paragraph p = asked(paragraph);
        if (!isWithin(many, 1, MOST_WORDS)) {
            throw new IllegalArgumentException("many");
        }
        p.cutBack(many);
        isStale = true;
        return p.count;
    }

    public String retype(int paragraph, int word, int code)
            throws IndexOutOfBoundsException, IllegalArgumentException {
        Paragraph p = asked(paragraph);
        if (!p.hasWord(word)) {
            throw new IndexOutOfBoundsException("no such word");
        }
        if (!Words.isCode(code)) {
            throw new IllegalArgumentException("code");
        }
        answer.setLength(0);
        Words.write(p.codes.at(word), answer);
        p.codes.put(word, code);
        isStale = true;
        return answer.toString();
    }

    public int note(int paragraph, int word, int code, int other)
            throws IndexOutOfBoundsException, IllegalArgumentException, IllegalStateException {
        Paragraph p = asked(paragraph);
        if (!p.hasWord(word)) {
            throw new IndexOutOfBoundsException("no such word");
        }
        if (!Words.isCode(code) || other != NONE && !Words.isCode(other)) {
            throw new IllegalArgumentException("code or other");
        }
        if (p.isNoted(word) || p.notesIn(0, p.count) >= MOST_NOTES) {
            throw new IllegalStateException("a note, or two of them");
        }
        p.noteFirsts.put(word, code);
        p.noteOthers.put(word, other);
        isStale = true;
        return p.notesIn(0, p.count);
    }

    public int drop(int paragraph) throws IndexOutOfBoundsException {
        Paragraph p = asked(paragraph);
        shift(paragraph, count - 1);
        count--;
        isStale = true;
        return p.count;
    }

    public int move(int paragraph, int to) throws IndexOutOfBoundsException {
        if (!isWithin(paragraph, 0, count - 1) || !isWithin(to, 0, count - 1)) {
            throw new IndexOutOfBoundsException("no such paragraph");
        }
        if (paragraph == to) {
            return 0;
        }
        shift(paragraph, to);
        isStale = true;
        return Math.abs(to - paragraph) + 1;
    }

    // ---- how all is set

    public int set(int what, int value) throws IllegalArgumentException {
        if (!isRule(what, value)) {
            throw new IllegalArgumentException("what or value");
        }
        int before = rules.at(what);
        rules.put(what, value);
        isStale = true;
        return before;
    }

    public int exception(int code, int places) throws IllegalArgumentException {
        if (!Words.isCode(code) || places != NONE && !Words.isPlaces(code, places)) {
            throw new IllegalArgumentException("code or places");
        }
        int before = breaks.placesAt(breaks.find(code));
        breaks.tell(code, places);
        isStale = true;
        return before;
    }

    public int stop(int x, int kind) throws IllegalArgumentException {
        if (!isWithin(x, 1, LAST_STOP) || !isWithin(kind, NONE, STOP_POINT)) {
            throw new IllegalArgumentException("x or kind");
        }
        int before = stops.at(x) - 1;
        stops.put(x, kind + 1);
        isStale = true;
        return before;
    }

    public int keep() {
        settle();
        kept.setLength(0);
        for (int n = 0; n < book.pageCount; n++) {
            keptStarts.put(n, kept.length());
            writePage(n);
            Words.copySigns(sheet.text, 0, sheet.text.length(), kept);
        }
        keptPages = book.pageCount;
        keptStarts.put(keptPages, kept.length());
        return keptPages;
    }

    public int knock() {
        knocks++;
        return knocks;
    }

    // ---- what is asked of words

    public String typed(int paragraph) throws IndexOutOfBoundsException {
        Paragraph p = asked(paragraph);
        answer.setLength(0);
        for (int w = 0; w < p.count; w++) {
            Words.write(p.codes.at(w), answer);
            int space = p.spaces.at(w);
            answer.append(space == TAB ? '>' : space == LINE_END ? '/' : ' ');
        }
        return answer.toString();
    }

    public String word(int paragraph, int nth)
            throws IndexOutOfBoundsException, IllegalArgumentException {
        Paragraph p = asked(paragraph);
        if (nth < 0) {
            throw new IllegalArgumentException("nth");
        }
        if (nth >= p.count) {
            return "";
        }
        answer.setLength(0);
        Words.write(p.codes.at(nth), answer);
        return answer.toString();
    }

    public String dashed(int code) throws IllegalArgumentException {
        if (!Words.isCode(code)) {
            throw new IllegalArgumentException("code");
        }
        int told = breaks.placesAt(breaks.find(code));
        int places = told == NONE ? Words.rulePlaces(code) : told;
        answer.setLength(0);
        for (int left = Words.signs(code) - 1, k = 0; left >= 0; left--, k++) {
            if (Words.isIn(k, places)) {
                answer.append('-');
            }
            answer.append(Words.letter(code, left));
        }
        return answer.toString();
    }

    public int width(int code) throws IllegalArgumentException {
        if (!Words.isCode(code)) {
            throw new IllegalArgumentException("code");
        }
        return Words.wideOf(code);
    }

    public String index(int code) throws IllegalArgumentException {
        if (!Words.isCode(code)) {
            throw new IllegalArgumentException("code");
        }
        settle();
        writeIndex(code);
        return answer.toString();
    }

    // ---- what is asked of lines

    public int lines(int paragraph) throws IndexOutOfBoundsException {
        Paragraph p = asked(paragraph);
        settle();
        return p.way.count;
    }

    public String line(int paragraph, int nth) throws IndexOutOfBoundsException {
        Paragraph p = asked(paragraph);
        settle();
        showLine(p, nth);
        return shown.text.toString();
    }

    public String mirrored(int paragraph, int nth) throws IndexOutOfBoundsException {
        Paragraph p = asked(paragraph);
        settle();
        showLine(p, nth);
        answer.setLength(0);
        Words.copySigns(shown.text, 0, shown.text.length(), answer);
        answer.reverse();
        return answer.toString();
    }

    public int ofLine(int paragraph, int nth, int what)
            throws IndexOutOfBoundsException, IllegalArgumentException {
        Paragraph p = asked(paragraph);
        settle();
        showLine(p, nth);
        if (!isWithin(what, 0, 9)) {
            throw new IllegalArgumentException("what");
        }
        return measure(p, nth, what);
    }

    public int badness(int paragraph, boolean isFit) throws IndexOutOfBoundsException {
        Paragraph p = asked(paragraph);
        settle();
        return isFit ? p.fit.badness : p.way.badness;
    }

    public int fits(int paragraph) throws IndexOutOfBoundsException {
        Paragraph p = asked(paragraph);
        settle();
        return p.fit.count;
    }

    public int would(int paragraph, int lines)
            throws IndexOutOfBoundsException, IllegalArgumentException {
        Paragraph p = asked(paragraph);
        if (!isWithin(lines, 1, 99)) {
            throw new IllegalArgumentException("lines");
        }
        settle();
        return setter.leastBy(p, lines);
    }

    public int rivers(int paragraph) throws IndexOutOfBoundsException {
        Paragraph p = asked(paragraph);
        settle();
        return countRivers(p);
    }

    public String marker(int paragraph) throws IndexOutOfBoundsException {
        Paragraph p = asked(paragraph);
        settle();
        return p.marker.toString();
    }

    public int nearest(int x, boolean isUp) throws IllegalArgumentException {
        if (!isWithin(x, 0, LAST_STOP + 1)) {
            throw new IllegalArgumentException("x");
        }
        return nearestStop(x, isUp);
    }

    // ---- what is asked of pages

    public int pages() {
        settle();
        return book.pageCount;
    }

    public String page(int page) throws IndexOutOfBoundsException {
        settle();
        requirePage(page);
        writePage(page);
        return sheet.text.toString();
    }

    public String pageLine(int page, int nth) throws IndexOutOfBoundsException {
        settle();
        requirePage(page);
        writePage(page);
        if (!isWithin(nth, 0, sheet.texts - 1)) {
            throw new IndexOutOfBoundsException("no such text");
        }
        answer.setLength(0);
        Words.copySigns(sheet.text, sheet.startOf(nth), sheet.endOf(nth), answer);
        return answer.toString();
    }

    public int ofPage(int page, int what)
            throws IndexOutOfBoundsException, IllegalArgumentException {
        settle();
        requirePage(page);
        if (!isWithin(what, 0, 6)) {
            throw new IllegalArgumentException("what");
        }
        return book.measure(page, what);
    }

    public int notePage(int paragraph, int word) throws IndexOutOfBoundsException {
        Paragraph p = asked(paragraph);
        if (!p.hasWord(word)) {
            throw new IndexOutOfBoundsException("no such word");
        }
        if (!p.isNoted(word)) {
            return NONE;
        }
        settle();
        return book.pageOf(p, p.lineEnding(word));
    }

    public int even(int columns) throws IllegalArgumentException {
        if (!isWithin(columns, 1, 6)) {
            throw new IllegalArgumentException("columns");
        }
        settle();
        return book.evenHeight(columns);
    }

    public String changed() {
        settle();
        writeChanged();
        return answer.toString();
    }

    // ---- all of it

    public int house(int what) throws IllegalArgumentException {
        if (!isWithin(what, 0, 9)) {
            throw new IllegalArgumentException("what");
        }
        settle();
        return total(what);
    }

    public boolean isSound() {
        settle();
        return isAllSound();
    }

    public long digest() {
        settle();
        long d = 6007;
        for (int what = 0; what <= 9; what++) {
            d = fold(d, total(what));
        }
        for (int i = 0; i < count; i++) {
            d = foldParagraph(d, slot(i));
        }
        d = fold(d, book.pageCount);
        for (int n = 0; n < book.pageCount; n++) {
            for (int what = 0; what <= 6; what++) {
                d = fold(d, book.measure(n, what));
            }
            writePage(n);
            d = fold(d, sheet.text.length());
        }
        writeIndex(1);
        d = fold(d, answer.length());
        writeChanged();
        d = fold(d, answer.length());
        d = fold(d, book.evenHeight(2));
        d = fold(d, nearestStop(20, true));
        d = fold(d, nearestStop(20, false));
        return fold(d, isAllSound() ? 1 : 0);
    }

    // ---- within

    private static boolean isWithin(int value, int least, int most) {
        return value >= least && value <= most;
    }

    private static boolean isRule(int what, int value) {
        switch (what) {
            case WIDTH: return isWithin(value, 24, 60);
            case HEIGHT: return isWithin(value, LEAST_HEIGHT, 24);
            case BREAK_COST: return isWithin(value, 0, 99);
            case SKIP: return isWithin(value, 0, 2);
            case HEAD_LINES: return isWithin(value, 0, 1);
            default: return false;
        }
    }

    private static long fold(long d, int v) {
        return d * 31 + v;
    }

    /** The PARAGRAPH kept at a place, also beyond those that stand; the copy without such a place. */
    private Paragraph slot(int i) {
        if (i < 0 || i >= order.length) {
            return copy;
        }
        Paragraph p = order[i];
        return p == null ? copy : p;
    }

    private Paragraph asked(int i) {
        if (i < 0 || i >= count) {
            throw new IndexOutOfBoundsException("no such paragraph");
        }
        return slot(i);
    }

    /** Those between move by one, so that none is lost: a dropped one waits behind the others. */
    private void shift(int from, int to) {
        Paragraph taken = slot(from);
        int step = from < to ? 1 : -1;
        int many = Math.abs(to - from);
        for (int k = 0; k < many; k++) {
            int place = from + k * step;
            if (place >= 0 && place < order.length) {
                order[place] = slot(place + step);
            }
        }
        if (to >= 0 && to < order.length) {
            order[to] = taken;
        }
    }

    /** All lines and pages are found anew, but only when one asks behind a change. */
    private void settle() {
        if (!isStale) {
            return;
        }
        isStale = false;
        numberItems();
        book.begin(rules);
        for (int i = 0; i < count; i++) {
            Paragraph p = slot(i);
            setter.lay(p, rules, breaks);
            book.add(p, i);
        }
        book.fill();
    }

    private void numberItems() {
        int one = 0;
        int two = 0;
        int three = 0;
        for (int i = 0; i < count; i++) {
            Paragraph p = slot(i);
            int level = p.kind == ITEM ? p.level : 0;
            boolean isClosing = p.kind != QUOTE && p.kind != TABBED;
            if (isClosing) {
                one = level == 1 ? one + 1 : level > 1 ? one : 0;
                two = level == 2 ? two + 1 : level > 2 ? two : 0;
                three = level == 3 ? three + 1 : 0;
            }
            p.number(level == 1 ? one : level == 2 ? two : level == 3 ? three : 0);
        }
    }

    private void showLine(Paragraph p, int nth) {
        if (!isWithin(nth, 0, p.way.count - 1)) {
            throw new IndexOutOfBoundsException("no such line");
        }
        shown.setOf(p, nth, rules.at(WIDTH), stops);
    }

    private void requirePage(int page) {
        if (!isWithin(page, 0, book.pageCount - 1)) {
            throw new IndexOutOfBoundsException("no such page");
        }
    }

    /** One of the numbers that ofLine tells, of the line that was set last. */
    private int measure(Paragraph p, int nth, int what) {
        switch (what) {
            case 0: return shown.wide;
            case 1: return p.firstWord(nth);
            case 2: return p.lastWord(nth);
            case 3: return shown.gap;
            case 4: return p.isBroken(nth) ? 1 : 0;
            case 5: return shown.rows;
            case 6: return shown.widest();
            case 7: return shown.narrowest();
            case 8: return book.pageOf(p, nth);
            default: return p.notesIn(p.firstWord(nth), p.endedWords(nth));
        }
    }

    private int countRivers(Paragraph p) {
        int found = 0;
        covered.clear();
        covering.clear();
        for (int n = 0; n < p.way.count; n++) {
            shown.setOf(p, n, rules.at(WIDTH), stops);
            for (int r = 0; r < shown.rows; r++) {
                int end = Math.min(MOST_X, shown.ats.at(r) + shown.wides.at(r));
                for (int x = shown.ats.at(r); x < end; x++) {
                    int run = covered.at(x) == n ? covering.at(x) + 1 : 1;
                    covered.put(x, n + 1);
                    covering.put(x, run);
                    found += run >= RIVER_LINES ? 1 : 0;
                }
            }
        }
        return found;
    }

    private int nearestStop(int x, boolean isUp) {
        for (int away = 0; away <= LAST_STOP + 1; away++) {
            int place = isUp ? x + away : x - away;
            if (stops.at(place) != 0) {
                return place;
            }
        }
        return NONE;
    }

    private int total(int what) {
        switch (what) {
            case 0: return count;
            case 5: return breaks.count;
            case 6: return stops.countSet();
            case 8: return knocks;
            default: break;
        }
        int sum = 0;
        for (int i = 0; i < count; i++) {
            Paragraph p = slot(i);
            switch (what) {
                case 1: sum += p.count; break;
                case 2: sum += p.way.count; break;
                case 4: sum += p.notesIn(0, p.count); break;
                case 7: sum += p.way.badness; break;
                default: sum += countLines(p, what == 3); break;
            }
        }
        return sum;
    }

    /** The lines that are TOO WIDE, or those that end within a WORD. */
    private int countLines(Paragraph p, boolean isTooWide) {
        int found = 0;
        for (int n = 0; n < p.way.count; n++) {
            if (isTooWide) {
                shown.setOf(p, n, rules.at(WIDTH), stops);
                found += shown.gap < 0 ? 1 : 0;
            } else {
                found += p.isBroken(n) ? 1 : 0;
            }
        }
        return found;
    }

    private void writeIndex(int code) {
        answer.setLength(0);
        int last = NONE;
        for (int k = 0; k < book.lineCount; k++) {
            Paragraph p = slot(book.owners.at(k));
            int n = book.numbers.at(k);
            int onPage = book.onPages.at(k);
            if (onPage != last && p.hasCode(code, p.firstWord(n), p.endedWords(n))) {
                if (last != NONE) {
                    answer.append(' ');
                }
                answer.append(onPage);
                last = onPage;
            }
        }
    }

    private void writeChanged() {
        answer.setLength(0);
        if (keptPages == NONE) {
            answer.append('?');
            return;
        }
        int most = Math.max(keptPages, book.pageCount);
        for (int n = 0; n < most; n++) {
            boolean isSame = false;
            if (n < keptPages && n < book.pageCount) {
                writePage(n);
                isSame = Words.isSame(sheet.text, kept, keptStarts.at(n), keptStarts.at(n + 1));
            }
            if (!isSame) {
                if (answer.length() > 0) {
                    answer.append(' ');
                }
                answer.append(n);
            }
        }
    }

    private void writePage(int n) {
        sheet.begin();
        if (rules.at(HEAD_LINES) == 1) {
            writeHeadLine(n);
        }
        int from = book.starts.at(n);
        int end = book.endOf(n);
        for (int k = from; k < end; k++) {
            Paragraph p = slot(book.owners.at(k));
            if (k > from && book.owners.at(k) != book.owners.at(k - 1)) {
                sheet.openMany(rules.at(SKIP));
            }
            shown.setOf(p, book.numbers.at(k), rules.at(WIDTH), stops);
            sheet.open();
            Words.copySigns(shown.text, 0, shown.text.length(), sheet.text);
        }
        int notes = book.noteTexts(n);
        if (notes > 0) {
            sheet.openMany(rules.at(HEIGHT) - sheet.texts - notes);
            for (int k = from; k < end; k++) {
                writeNotes(slot(book.owners.at(k)), book.numbers.at(k));
            }
        }
    }

    private void writeHeadLine(int n) {
        sheet.open();
        int ahead = 0;
        for (int k = book.endOf(n) - 1; k >= 0 && ahead == 0; k--) {
            Paragraph p = slot(book.owners.at(k));
            if (p.kind == HEAD) {
                ahead = p.codes.at(0);
            }
        }
        Words.write(ahead, sheet.text);
        int blanks = rules.at(WIDTH) - Words.wideOf(ahead) - Words.digits(n + 1);
        for (int k = 0; k < blanks; k++) {
            sheet.text.append(' ');
        }
        sheet.text.append(n + 1);
    }

    private void writeNotes(Paragraph p, int nth) {
        int end = p.endedWords(nth);
        for (int w = p.firstWord(nth); w < end; w++) {
            if (p.isNoted(w)) {
                int other = p.noteOthers.at(w);
                sheet.open();
                sheet.text.append('*');
                sheet.text.append(' ');
                Words.write(p.noteFirsts.at(w), sheet.text);
                if (other != NONE) {
                    if (p.noteTexts(w, rules.at(WIDTH)) == 1) {
                        sheet.text.append(' ');
                    } else {
                        sheet.open();
                    }
                    Words.write(other, sheet.text);
                }
            }
        }
    }

    private long foldParagraph(long start, Paragraph p) {
        long d = fold(start, p.way.count);
        d = fold(d, p.way.badness);
        d = fold(d, p.fit.badness);
        d = fold(d, p.fit.count);
        d = fold(d, setter.leastBy(p, 2));
        d = fold(d, countRivers(p));
        d = fold(d, p.marker.length());
        for (int n = 0; n < p.way.count; n++) {
            shown.setOf(p, n, rules.at(WIDTH), stops);
            for (int what = 0; what <= 9; what++) {
                d = fold(d, measure(p, n, what));
            }
            d = fold(d, shown.text.length());
        }
        return d;
    }

    // ---- whether all is sound

    private boolean isAllSound() {
        boolean isSound = true;
        for (int i = 0; i < count && isSound; i++) {
            Paragraph p = slot(i);
            isSound = p.way.badness <= p.fit.badness
                    && (p.count == 0 || setter.leastBy(p, p.way.count) == p.way.badness);
            if (p.kind != TABBED) {
                typeAnew(p);
                setter.lay(copy, rules, breaks);
                isSound = isSound && isSameAnew(p) && isShared(p);
            }
        }
        return isSound && areNotesThere() && arePagesGood();
    }

    /** Types into the copy what the lines show, with the NOTES at the same WORDS. */
    private void typeAnew(Paragraph p) {
        copy.begin(p.kind, p.align, p.first, p.hang);
        copy.listAs(p.level, p.style);
        copy.number(p.nth);
        int code = 0;
        for (int n = 0; n < p.way.count; n++) {
            shown.setOf(p, n, rules.at(WIDTH), stops);
            code = readLine(n == 0 && p.kind == ITEM ? 3 * (p.level - 1) + p.marker.length() : 0, code);
        }
        for (int w = 0; w < p.count; w++) {
            copy.noteFirsts.put(w, p.noteFirsts.at(w));
            copy.noteOthers.put(w, p.noteOthers.at(w));
        }
    }

    /** Types the WORDS of the line into the copy; what is read of one that goes on in the next line. */
    private int readLine(int markerEnd, int read) {
        int length = shown.text.length();
        int begin = markerEnd;
        while (begin < length && Words.signAt(shown.text, begin) == ' ') {
            begin++;
        }
        int code = read;
        for (int k = begin; k <= length; k++) {
            char sign = Words.signAt(shown.text, k);
            if (sign == '-') {
                return code;
            }
            if (Words.isSign(sign)) {
                code = Words.longer(code, sign);
            }
            if (sign == ' ' && code > 0) {
                copy.add(code, 0);
                code = 0;
            }
        }
        return code;
    }

    /** Whether the copy has the same WORDS and the same lines. */
    private boolean isSameAnew(Paragraph p) {
        boolean isSame = copy.count == p.count && copy.way.count == p.way.count;
        for (int w = 0; w < p.count && isSame; w++) {
            isSame = copy.codes.at(w) == p.codes.at(w);
        }
        for (int n = 0; n < p.way.count && isSame; n++) {
            shown.setOf(p, n, rules.at(WIDTH), stops);
            again.setOf(copy, n, rules.at(WIDTH), stops);
            isSame = Words.isSame(shown.text, again.text, 0, again.text.length());
        }
        return isSame;
    }

    /** Whether the blanks of lines set by BOTH are shared out as evenly as can be. */
    private boolean isShared(Paragraph p) {
        boolean isEven = true;
        for (int n = 0; n + 1 < p.way.count && p.align == BOTH; n++) {
            shown.setOf(p, n, rules.at(WIDTH), stops);
            if (shown.rows > 0 && shown.gap >= 0) {
                int full = p.indent(n == 0) + p.room(n == 0, rules.at(WIDTH));
                isEven = isEven && shown.wide == full && shown.widest() - shown.narrowest() <= 1;
            }
        }
        return isEven;
    }

    private boolean areNotesThere() {
        int notes = 0;
        for (int i = 0; i < count; i++) {
            notes += slot(i).notesIn(0, slot(i).count);
        }
        for (int n = 0; n < book.pageCount; n++) {
            int end = book.endOf(n);
            for (int k = book.starts.at(n); k < end; k++) {
                Paragraph p = slot(book.owners.at(k));
                int nth = book.numbers.at(k);
                int behind = p.endedWords(nth);
                for (int w = p.firstWord(nth); w < behind; w++) {
                    if (p.isNoted(w) && book.pageOf(p, p.lineEnding(w)) == n) {
                        notes--;
                    }
                }
            }
        }
        return notes == 0;
    }

    private boolean arePagesGood() {
        for (int n = 0; n < book.pageCount; n++) {
            if (book.measure(n, 6) > rules.at(HEIGHT)) {
                return false;
            }
            boolean isLast = n == book.pageCount - 1;
            if (!isLast && book.forced.at(n) == 0 && book.bads.at(book.endOf(n) - 1) != 0) {
                return false;
            }
        }
        return true;
    }

    // ---- classes inside

    /** A row of numbers: 0 stands outside of it, and what is put there is lost. */
    private static final class Row {
        private final int[] numbers;

        Row(int length) {
            numbers = new int[Math.max(0, length)];
        }

        int at(int i) {
            return i >= 0 && i < numbers.length ? numbers[i] : 0;
        }

        void put(int i, int number) {
            if (i >= 0 && i < numbers.length) {
                numbers[i] = number;
            }
        }

        void clear() {
            for (int i = 0; i < numbers.length; i++) {
                numbers[i] = 0;
            }
        }

        int countSet() {
            int found = 0;
            for (int i = 0; i < numbers.length; i++) {
                found += numbers[i] != 0 ? 1 : 0;
            }
            return found;
        }
    }

    /** What is told of WORDS by their CODES, and of their SIGNS. */
    private static final class Words {
        private static final String SIGNS = "aeilmotw.";
        private static final String AHEAD = "aeio";
        private static final String BEHIND = "lmtw";

        static boolean isCode(int code) {
            return code >= 1 && code <= LAST_CODE;
        }

        static int signs(int code) {
            int signs = 0;
            int rest = code;
            while (rest > 0 && signs < MOST_SIGNS) {
                signs++;
                rest = (rest - 1) / 9;
            }
            return signs;
        }

        /** The letter of the SIGN behind which some more are left. */
        static char letter(int code, int left) {
            int rest = code;
            for (int k = 0; k < left; k++) {
                rest = (rest - 1) / 9;
            }
            int sign = rest > 0 ? (rest - 1) % 9 : 0;
            return sign < SIGNS.length() ? SIGNS.charAt(sign) : '.';
        }

        static boolean isSign(char sign) {
            return SIGNS.indexOf(sign) >= 0;
        }

        /** The CODE of a WORD with one SIGN more behind it. */
        static int longer(int code, char sign) {
            return 9 * code + SIGNS.indexOf(sign) + 1;
        }

        static void write(int code, StringBuilder out) {
            for (int left = signs(code) - 1; left >= 0; left--) {
                out.append(letter(code, left));
            }
        }

        static int wide(char sign) {
            switch (sign) {
                case 'm':
                case 'w':
                    return 3;
                case 'a':
                case 'e':
                case 'o':
                    return 2;
                default:
                    return 1;
            }
        }

        static int wideOf(int code) {
            int wide = 0;
            for (int left = signs(code) - 1; left >= 0; left--) {
                wide += wide(letter(code, left));
            }
            return wide;
        }

        static int digits(int number) {
            return number < 10 ? 1 : number < 100 ? 2 : number < 1000 ? 3 : 4;
        }

        static boolean isIn(int place, int places) {
            return (places >> place & 1) == 1;
        }

        /** Whether each of the places is one of that WORD, be it a good one or not. */
        static boolean isPlaces(int code, int places) {
            int all = (1 << signs(code)) - 2;
            return places >= 0 && (places & ~all) == 0;
        }

        static int rulePlaces(int code) {
            int places = 0;
            int signs = signs(code);
            for (int k = 2; k <= signs - 2; k++) {
                boolean isAhead = AHEAD.indexOf(letter(code, signs - k)) >= 0;
                if (isAhead && BEHIND.indexOf(letter(code, signs - k - 1)) >= 0) {
                    places |= 1 << k;
                }
            }
            return places;
        }

        /** A sign of a text; a blank beyond it. */
        static char signAt(StringBuilder text, int i) {
            return i >= 0 && i < text.length() ? text.charAt(i) : ' ';
        }

        static void copySigns(StringBuilder from, int begin, int end, StringBuilder to) {
            int last = Math.min(end, from.length());
            for (int i = Math.max(0, begin); i < last; i++) {
                to.append(from.charAt(i));
            }
        }

        /** Whether a text is what stands in another one from begin to end. */
        static boolean isSame(StringBuilder text, StringBuilder other, int begin, int end) {
            boolean isSame = text.length() == end - begin;
            for (int i = 0; i < text.length() && isSame; i++) {
                isSame = signAt(text, i) == signAt(other, begin + i);
            }
            return isSame;
        }
    }

    /** The EXCEPTIONS that are told, in any order. */
    private static final class BreakTable {
        private final Row codes = new Row(MOST_EXCEPTIONS);
        private final Row places = new Row(MOST_EXCEPTIONS);
        private int count;

        int find(int code) {
            for (int i = 0; i < count; i++) {
                if (codes.at(i) == code) {
                    return i;
                }
            }
            return NONE;
        }

        /** What the EXCEPTION found tells; NONE, if none was found. */
        int placesAt(int i) {
            return i == NONE ? NONE : places.at(i);
        }

        void tell(int code, int set) {
            int i = find(code);
            if (set == NONE) {
                removeAt(i);
            } else if (i != NONE) {
                places.put(i, set);
            } else if (count < MOST_EXCEPTIONS) {
                codes.put(count, code);
                places.put(count, set);
                count++;
            }
        }

        private void removeAt(int i) {
            if (i != NONE) {
                count--;
                codes.put(i, codes.at(count));
                places.put(i, places.at(count));
            }
        }
    }

    /** A PARAGRAPH: how it is made, its WORDS, and how these are laid in lines. */
    private static final class Paragraph {
        private int kind;
        private int align;
        private int first;
        private int hang;
        private int level;
        private int style;
        private int nth;
        private int count;
        private int linesAhead;
        private int markerWide;
        private final Row codes = new Row(MOST_WORDS);
        private final Row spaces = new Row(MOST_WORDS);
        private final Row noteFirsts = new Row(MOST_WORDS);
        private final Row noteOthers = new Row(MOST_WORDS);
        private final StringBuilder marker = new StringBuilder();
        private final Pieces pieces = new Pieces();
        private final Way way = new Way();
        private final Way fit = new Way();

        void begin(int newKind, int newAlign, int newFirst, int newHang) {
            kind = newKind;
            align = newAlign;
            first = newFirst;
            hang = newHang;
            level = 0;
            style = 0;
            count = 0;
        }

        void listAs(int newLevel, int newStyle) {
            level = newLevel;
            style = newStyle;
        }

        void add(int code, int space) {
            if (count < MOST_WORDS) {
                codes.put(count, code);
                spaces.put(count, space);
                noteFirsts.put(count, 0);
                noteOthers.put(count, NONE);
                count++;
            }
        }

        void cutBack(int many) {
            count = Math.max(0, count - many);
        }

        boolean hasWord(int w) {
            return w >= 0 && w < count;
        }

        boolean hasCode(int code, int from, int end) {
            boolean has = false;
            for (int w = from; w < end; w++) {
                has = has || codes.at(w) == code;
            }
            return has;
        }

        boolean isNoted(int w) {
            return noteFirsts.at(w) != 0;
        }

        int notesIn(int from, int end) {
            int notes = 0;
            for (int w = from; w < end; w++) {
                notes += isNoted(w) ? 1 : 0;
            }
            return notes;
        }

        /** How many lines the NOTE of a WORD has: the second WORD may need one by itself. */
        int noteTexts(int w, int told) {
            int other = noteOthers.at(w);
            if (other == NONE) {
                return 1;
            }
            return 3 + Words.wideOf(noteFirsts.at(w)) + Words.wideOf(other) <= told ? 1 : 2;
        }

        /** Tells which one of its list it is (0: of none), and writes its MARKER. */
        void number(int newNth) {
            nth = newNth;
            marker.setLength(0);
            if (nth > 0 && kind == ITEM) {
                writeMarker();
            }
            markerWide = 0;
            for (int k = 0; k < marker.length(); k++) {
                markerWide += Words.wide(marker.charAt(k));
            }
        }

        private void writeMarker() {
            if (style == 0) {
                marker.append(nth);
            } else if (style == 1) {
                marker.append((char) ('a' + nth - 1));
            } else {
                writeRoman();
            }
            marker.append('.');
        }

        private void writeRoman() {
            int tens = nth / 10;
            int ones = nth % 10;
            for (int k = 0; k < tens; k++) {
                marker.append('x');
            }
            if (ones == 9) {
                marker.append("ix");
            } else if (ones == 4) {
                marker.append("iv");
            } else {
                if (ones >= 5) {
                    marker.append('v');
                }
                for (int k = 0; k < ones % 5; k++) {
                    marker.append('i');
                }
            }
        }

        int indent(boolean isFirst) {
            int wide = isFirst ? first : hang;
            if (kind == QUOTE) {
                wide += 4;
            }
            if (kind == ITEM) {
                wide += 3 * (level - 1) + markerWide + 1;
            }
            return wide;
        }

        int room(boolean isFirst, int told) {
            return told - indent(isFirst) - (kind == QUOTE ? 4 : 0);
        }

        int firstWord(int n) {
            return pieces.owners.at(way.starts.at(n));
        }

        int lastWord(int n) {
            return pieces.owners.at(way.ends.at(n) - 1);
        }

        boolean isBroken(int n) {
            return pieces.dashes.at(way.ends.at(n)) == 1;
        }

        /** The WORD behind the last one that ends in a line. */
        int endedWords(int n) {
            return isBroken(n) ? lastWord(n) : lastWord(n) + 1;
        }

        int lineEnding(int w) {
            for (int n = 0; n < way.count; n++) {
                if (endedWords(n) > w) {
                    return n;
                }
            }
            return NONE;
        }
    }

    /**
     * All PIECES of a PARAGRAPH, each with where it would begin and end and have its first point if
     * all stood in one line, and whether a line that ends ahead of it needs a dash. Of TABBED each
     * WORD is one.
     */
    private static final class Pieces {
        private final StringBuilder signs = new StringBuilder();
        private final Row owners = new Row(MOST_PIECES + 1);
        private final Row begins = new Row(MOST_PIECES + 1);
        private final Row lefts = new Row(MOST_PIECES + 1);
        private final Row rights = new Row(MOST_PIECES + 1);
        private final Row dashes = new Row(MOST_PIECES + 1);
        private final Row points = new Row(MOST_PIECES + 1);
        private int count;
        private int firstRoom;
        private int nextRoom;
        private int cost;

        void cut(Paragraph p, BreakTable breaks) {
            signs.setLength(0);
            count = 0;
            int x = 0;
            for (int w = 0; w < p.count; w++) {
                int code = p.codes.at(w);
                int told = breaks.placesAt(breaks.find(code));
                int places = p.kind == TABBED ? 0 : told == NONE ? Words.rulePlaces(code) : told;
                x += w > 0 ? 1 : 0;
                for (int left = Words.signs(code) - 1, k = 0; left >= 0; left--, k++) {
                    if (k == 0 || Words.isIn(k, places)) {
                        open(w, x, k);
                    }
                    x = widen(x, Words.letter(code, left));
                }
                x = p.isNoted(w) ? widen(x, '*') : x;
            }
            begins.put(count, signs.length());
            dashes.put(count, 0);
        }

        private void open(int w, int x, int signsAhead) {
            owners.put(count, w);
            begins.put(count, signs.length());
            lefts.put(count, x);
            dashes.put(count, signsAhead > 0 ? 1 : 0);
            points.put(count, NONE);
            count++;
        }

        private int widen(int x, char sign) {
            int last = count - 1;
            if (sign == '.' && points.at(last) == NONE) {
                points.put(last, x);
            }
            signs.append(sign);
            rights.put(last, x + Words.wide(sign));
            return x + Words.wide(sign);
        }

        void fitInto(int newFirstRoom, int newNextRoom, int newCost) {
            firstRoom = newFirstRoom;
            nextRoom = newNextRoom;
            cost = newCost;
        }

        int gap(int from, int end) {
            int content = rights.at(end - 1) - lefts.at(from) + dashes.at(end);
            return (from == 0 ? firstRoom : nextRoom) - content;
        }

        boolean isLet(int from, int end) {
            return end == from + 1 || gap(from, end) >= 0;
        }

        int badnessOf(int from, int end) {
            int gap = gap(from, end);
            int bad = end == count && gap >= 0 ? 0 : gap * gap;
            bad += dashes.at(end) * cost;
            return gap < 0 ? bad + 1000 : bad;
        }

        /** Where the first point of some PIECES stands; where they end without one. */
        int pointOf(int from, int end) {
            for (int i = from; i < end; i++) {
                if (points.at(i) != NONE) {
                    return points.at(i);
                }
            }
            return rights.at(end - 1);
        }
    }

    /** A WAY: with which PIECE each of its lines begins, and ahead of which one it ends. */
    private static final class Way {
        private final Row starts = new Row(MOST_PIECES);
        private final Row ends = new Row(MOST_PIECES);
        private int count;
        private int badness;

        void begin() {
            count = 0;
            badness = 0;
        }

        void add(int start, int end, int bad) {
            starts.put(count, start);
            ends.put(count, end);
            count++;
            badness += bad;
        }
    }

    /** Finds the WAYS of PARAGRAPHS, from the last PIECE to the first one. */
    private static final class Setter {
        private final Row least = new Row(MOST_PIECES + 1);
        private final Row nexts = new Row(MOST_PIECES + 1);

        void lay(Paragraph p, Row rules, BreakTable breaks) {
            int told = rules.at(WIDTH);
            p.pieces.cut(p, breaks);
            p.pieces.fitInto(p.room(true, told), p.room(false, told), rules.at(BREAK_COST));
            p.way.begin();
            p.fit.begin();
            if (p.kind == TABBED) {
                findRows(p, p.way);
                findRows(p, p.fit);
            } else {
                findBest(p.pieces, p.way);
                findFit(p.pieces, p.fit);
            }
        }

        private void findRows(Paragraph p, Way way) {
            int from = 0;
            for (int w = 0; w < p.count; w++) {
                if (w == p.count - 1 || p.spaces.at(w) == LINE_END) {
                    way.add(from, w + 1, 0);
                    from = w + 1;
                }
            }
        }

        /** A longer line only gets wider, so none that is let stands behind one that is not. */
        private void findBest(Pieces pieces, Way way) {
            int count = pieces.count;
            least.put(count, 0);
            for (int i = count - 1; i >= 0; i--) {
                int best = NONE;
                for (int j = i + 1; j <= count && pieces.isLet(i, j); j++) {
                    int bad = pieces.badnessOf(i, j) + least.at(j);
                    if (best == NONE || bad <= best) {
                        best = bad;
                        nexts.put(i, j);
                    }
                }
                least.put(i, best);
            }
            int from = 0;
            for (int n = 0; n < count && from < count; n++) {
                int end = nexts.at(from);
                way.add(from, end, pieces.badnessOf(from, end));
                from = end;
            }
        }

        private void findFit(Pieces pieces, Way way) {
            int from = 0;
            for (int n = 0; n < pieces.count && from < pieces.count; n++) {
                int end = from + 1;
                while (end < pieces.count && pieces.isLet(from, end + 1)) {
                    end++;
                }
                way.add(from, end, pieces.badnessOf(from, end));
                from = end;
            }
        }

        /** The least BADNESS of the WAYS with so many lines; NONE without one. */
        int leastBy(Paragraph p, int lines) {
            if (p.kind == TABBED) {
                return p.way.count == lines ? 0 : NONE;
            }
            int count = p.pieces.count;
            if (lines < 1 || lines > count) {
                return NONE;
            }
            for (int i = 0; i < count; i++) {
                least.put(i, NONE);
            }
            least.put(count, 0);
            for (int n = 0; n < lines; n++) {
                addLineAhead(p.pieces);
            }
            return least.at(0);
        }

        /** What least tells from each PIECE on becomes that by one line more. */
        private void addLineAhead(Pieces pieces) {
            for (int i = 0; i < pieces.count; i++) {
                int best = NONE;
                for (int j = i + 1; j <= pieces.count && pieces.isLet(i, j); j++) {
                    int rest = least.at(j);
                    int bad = rest == NONE ? NONE : rest + pieces.badnessOf(i, j);
                    best = best == NONE || bad != NONE && bad < best ? bad : best;
                }
                least.put(i, best);
            }
            least.put(pieces.count, NONE);
        }
    }

    /** The text of one line and what is measured of it; set anew for each line. */
    private static final class Line {
        private final StringBuilder text = new StringBuilder();
        private final Row ats = new Row(MOST_WORDS);
        private final Row wides = new Row(MOST_WORDS);
        private int rows;
        private int wide;
        private int gap;

        void setOf(Paragraph p, int nth, int told, Row stops) {
            text.setLength(0);
            rows = 0;
            wide = 0;
            if (p.kind == TABBED) {
                setTabs(p, p.way.starts.at(nth), p.way.ends.at(nth), stops);
                gap = told - wide;
            } else {
                gap = p.pieces.gap(p.way.starts.at(nth), p.way.ends.at(nth));
                indent(p, nth == 0);
                setPieces(p, nth);
            }
        }

        private void indent(Paragraph p, boolean isFirst) {
            if (isFirst && p.kind == ITEM) {
                blanks(3 * (p.level - 1));
                signs(p.marker, 0, p.marker.length());
                blanks(1);
            } else {
                blanks(p.indent(isFirst));
            }
            if (gap > 0 && p.align == RIGHT) {
                blanks(gap);
            }
            if (gap > 0 && p.align == MIDDLE) {
                blanks(gap / 2);
            }
        }

        private void setPieces(Paragraph p, int nth) {
            Pieces pieces = p.pieces;
            int from = p.way.starts.at(nth);
            int end = p.way.ends.at(nth);
            int joints = pieces.owners.at(end - 1) - pieces.owners.at(from);
            boolean isShared = p.align == BOTH && nth + 1 < p.way.count && gap > 0 && joints > 0;
            int each = isShared && joints > 0 ? gap / joints : 0;
            int over = isShared && joints > 0 ? gap % joints : 0;
            int joint = 0;
            for (int i = from; i < end; i++) {
                if (i > from && pieces.dashes.at(i) == 0) {
                    boolean isMore = nth % 2 == 0 ? joint < over : joint >= joints - over;
                    row(1 + each + (isMore ? 1 : 0));
                    joint++;
                }
                signs(pieces.signs, pieces.begins.at(i), pieces.begins.at(i + 1));
            }
            if (pieces.dashes.at(end) == 1) {
                text.append('-');
                wide++;
            }
        }

        /** Each WORD from one to another one, the FIELDS brought to their STOPS. */
        private void setTabs(Paragraph p, int from, int end, Row stops) {
            Pieces pieces = p.pieces;
            for (int w = from; w < end; w++) {
                if (w > from && p.spaces.at(w - 1) == TAB) {
                    int behind = w + 1;
                    while (behind < end && p.spaces.at(behind - 1) != TAB) {
                        behind++;
                    }
                    int left = pieces.lefts.at(w);
                    int point = pieces.pointOf(w, behind) - left;
                    row(beginOf(pieces.rights.at(behind - 1) - left, point, stops) - wide);
                } else if (w > from) {
                    row(1);
                }
                signs(pieces.signs, pieces.begins.at(w), pieces.begins.at(w + 1));
            }
        }

        /** Where a FIELD begins that is so wide, with so much ahead of its point. */
        private int beginOf(int field, int point, Row stops) {
            int x = wide + 1;
            while (x <= LAST_STOP && stops.at(x) == 0) {
                x++;
            }
            if (x > LAST_STOP) {
                return wide + 1;
            }
            int begin = x;
            switch (stops.at(x) - 1) {
                case STOP_RIGHT: begin = x - field; break;
                case STOP_MIDDLE: begin = x - field / 2; break;
                case STOP_POINT: begin = x - point; break;
                default: break;
            }
            return Math.max(begin, wide + 1);
        }

        private void row(int many) {
            ats.put(rows, wide);
            wides.put(rows, many);
            rows++;
            blanks(many);
        }

        private void blanks(int many) {
            for (int k = 0; k < many; k++) {
                text.append(' ');
                wide++;
            }
        }

        private void signs(StringBuilder from, int begin, int end) {
            for (int k = begin; k < end; k++) {
                char sign = Words.signAt(from, k);
                text.append(sign);
                wide += Words.wide(sign);
            }
        }

        int widest() {
            int widest = NONE;
            for (int r = 0; r < rows; r++) {
                widest = Math.max(widest, wides.at(r));
            }
            return widest;
        }

        int narrowest() {
            int narrowest = rows > 0 ? wides.at(0) : NONE;
            for (int r = 1; r < rows; r++) {
                narrowest = Math.min(narrowest, wides.at(r));
            }
            return narrowest;
        }
    }

    /** All lines of all PARAGRAPHS in their order, and how they are put on pages. */
    private static final class Book {
        private final Row owners = new Row(MOST_LINES);
        private final Row numbers = new Row(MOST_LINES);
        private final Row texts = new Row(MOST_LINES);
        private final Row bads = new Row(MOST_LINES);
        private final Row onPages = new Row(MOST_LINES);
        private final Row starts = new Row(MOST_LINES);
        private final Row forced = new Row(MOST_LINES);
        private int lineCount;
        private int pageCount;
        private int told;
        private int height;
        private int skip;
        private int ahead;
        private boolean isForced;

        void begin(Row rules) {
            lineCount = 0;
            pageCount = 0;
            told = rules.at(WIDTH);
            height = rules.at(HEIGHT);
            skip = rules.at(SKIP);
            ahead = rules.at(HEAD_LINES);
        }

        void add(Paragraph p, int i) {
            p.linesAhead = lineCount;
            int count = p.way.count;
            for (int n = 0; n < count && lineCount < MOST_LINES; n++) {
                boolean isLonely = count >= 3 && (n == 0 || n == count - 2);
                boolean isHead = p.kind == HEAD && n == count - 1;
                int notes = 0;
                int end = p.endedWords(n);
                for (int w = p.firstWord(n); w < end; w++) {
                    notes += p.isNoted(w) ? p.noteTexts(w, told) : 0;
                }
                owners.put(lineCount, i);
                numbers.put(lineCount, n);
                texts.put(lineCount, notes);
                bads.put(lineCount, isLonely || isHead ? 1 : 0);
                lineCount++;
            }
        }

        void fill() {
            int from = 0;
            for (int n = 0; n < lineCount && from < lineCount; n++) {
                int end = behindPage(from, height);
                starts.put(pageCount, from);
                forced.put(pageCount, isForced ? 1 : 0);
                for (int k = from; k < end; k++) {
                    onPages.put(k, pageCount);
                }
                pageCount++;
                from = end;
            }
        }

        /** The line behind the last one of a page that begins with a line. */
        private int behindPage(int from, int high) {
            int taken = taken(from, high);
            isForced = false;
            if (taken >= lineCount) {
                return lineCount;
            }
            int end = taken;
            while (end > from && bads.at(end - 1) != 0) {
                end--;
            }
            isForced = end == from;
            return isForced ? taken : end;
        }

        /** One line is always taken, so that each page leads on. */
        private int taken(int from, int high) {
            int left = high - ahead - 1 - texts.at(from);
            int end = from + 1;
            while (end < lineCount) {
                left -= 1 + texts.at(end) + skipAhead(end);
                if (left < 0) {
                    break;
                }
                end++;
            }
            return end;
        }

        private int skipAhead(int k) {
            return owners.at(k) == owners.at(k - 1) ? 0 : skip;
        }

        int endOf(int n) {
            return n + 1 < pageCount ? starts.at(n + 1) : lineCount;
        }

        int pageOf(Paragraph p, int n) {
            return onPages.at(p.linesAhead + n);
        }

        int noteTexts(int n) {
            int notes = 0;
            int end = endOf(n);
            for (int k = starts.at(n); k < end; k++) {
                notes += texts.at(k);
            }
            return notes;
        }

        private int empties(int n) {
            int empties = 0;
            int end = endOf(n);
            for (int k = starts.at(n) + 1; k < end; k++) {
                empties += skipAhead(k);
            }
            return empties;
        }

        /** One of the numbers that ofPage tells. */
        int measure(int n, int what) {
            int lines = endOf(n) - starts.at(n);
            switch (what) {
                case 0: return lines;
                case 1: return noteTexts(n);
                case 2: return empties(n);
                case 3: return owners.at(starts.at(n));
                case 4: return numbers.at(starts.at(n));
                case 5: return forced.at(n);
                default: break;
            }
            int shown = ahead + lines + empties(n) + noteTexts(n);
            return noteTexts(n) > 0 ? Math.max(shown, height) : shown;
        }

        int evenHeight(int columns) {
            int all = 0;
            for (int k = 0; k < lineCount; k++) {
                all += 1 + texts.at(k);
            }
            int least = columns > 0 ? all / columns : 0;
            int high = Math.max(LEAST_HEIGHT, least);
            while (high < MOST_HEIGHT && pagesBy(high) > columns) {
                high++;
            }
            return high;
        }

        private int pagesBy(int high) {
            int pages = 0;
            int from = 0;
            while (from < lineCount && pages < MOST_LINES) {
                from = behindPage(from, high);
                pages++;
            }
            return pages;
        }
    }

    /** The texts of one page, with "|" between; written anew for each page. */
    private static final class Sheet {
        private final StringBuilder text = new StringBuilder();
        private final Row starts = new Row(MOST_TEXTS);
        private int texts;

        void begin() {
            text.setLength(0);
            texts = 0;
        }

        void open() {
            if (texts > 0) {
                text.append('|');
            }
            starts.put(texts, text.length());
            texts++;
        }

        void openMany(int many) {
            for (int k = 0; k < many; k++) {
                open();
            }
        }

        int startOf(int n) {
            return starts.at(n);
        }

        int endOf(int n) {
            return n + 1 < texts ? starts.at(n + 1) - 1 : text.length();
        }
    }
}
