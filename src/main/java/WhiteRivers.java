/**
 * Rivers of white in a column of words: words are divided into lines that are filled to the
 * column's width by wider gaps; gaps that lie below one another make rivers, and a dam is the
 * best division into lines in which no river is longer than told.
 *
 * A line is named here by its first word, and a gap by the word before it: what happens to other
 * lines then changes neither name.
 */
public final class WhiteRivers {
    public static final int INVALID_ARGUMENT = -1;
    public static final int NOT_POSSIBLE = -2;
    public static final int LIMIT_REACHED = -3;
    public static final int NOT_FOUND = -4;

    private static final int MOST_WORDS = 24;
    private static final int LONGEST_WORD = 8;
    private static final int LEAST_WIDTH = 16;
    private static final int MOST_WIDTH = 40;
    private static final int FIRST_WIDTH = 24;
    private static final int MOST_SLACK = 8;
    private static final int FIRST_SLACK = 6;
    private static final int MOST_DAM = 24;
    private static final int MOST_STATES = 5;
    private static final int MOST_CHARACTERS = 100;
    private static final int BLANK = 32;
    private static final int LAST_CHARACTER = 126;

    private final Page page = new Page();
    private final History history = new History();
    private final Sheet sheet = new Sheet();
    private final Search search = new Search();
    private final Text text = new Text();

    public WhiteRivers() {
    }

    // ---- words and lines

    public int setWidth(int width) {
        if (!isWithin(width, LEAST_WIDTH, MOST_WIDTH)) {
            return INVALID_ARGUMENT;
        }
        if (page.frozenLines() > 0) {
            return NOT_POSSIBLE;
        }
        beginChange();
        page.width = width;
        page.fill();
        return page.lines();
    }

    public int setSlack(int slack) {
        if (!isWithin(slack, 0, MOST_SLACK)) {
            return INVALID_ARGUMENT;
        }
        beginChange();
        int previous = page.slack;
        page.slack = slack;
        return previous;
    }

    public int add(int length) {
        if (!isWithin(length, 1, LONGEST_WORD)) {
            return INVALID_ARGUMENT;
        }
        if (page.words >= MOST_WORDS) {
            return LIMIT_REACHED;
        }
        beginChange();
        int word = page.words;
        int last = page.firstOf(page.lines() - 1);
        page.append(length);
        if (word == 0 || page.isFrozen(last) || !page.fits(last, page.words)) {
            page.begin(word);
        }
        return word;
    }

    public int remove() {
        if (page.words == 0 || page.isFrozen(page.firstOf(page.lines() - 1))) {
            return NOT_POSSIBLE;
        }
        beginChange();
        page.dropLast();
        return page.words;
    }

    public int pull(int line) {
        if (!page.hasLine(line)) {
            return INVALID_ARGUMENT;
        }
        int first = page.firstOf(line);
        int next = page.endOf(first);
        if (next >= page.words || page.isFrozen(first) || page.isFrozen(next)
                || !page.fits(first, next + 1)) {
            return NOT_POSSIBLE;
        }
        beginChange();
        page.join(next);
        page.begin(next + 1);
        return page.lines();
    }

    public int push(int line) {
        if (!page.hasLine(line)) {
            return INVALID_ARGUMENT;
        }
        int first = page.firstOf(line);
        int next = page.endOf(first);
        int moved = next - 1;
        boolean isLast = next >= page.words;
        if (moved == first || page.isFrozen(first)
                || (!isLast && (page.isFrozen(next) || !page.fits(moved, page.endOf(next))))) {
            return NOT_POSSIBLE;
        }
        beginChange();
        page.begin(moved);
        page.join(next);
        return page.lines();
    }

    public int freeze(int line, int frozen) {
        if (!page.hasLine(line) || !isWithin(frozen, 0, 1)) {
            return INVALID_ARGUMENT;
        }
        beginChange();
        int first = page.firstOf(line);
        int previous = page.isFrozen(first) ? 1 : 0;
        page.setFrozen(first, frozen);
        return previous;
    }

    public int reflow() {
        if (page.frozenLines() > 0) {
            return NOT_POSSIBLE;
        }
        beginChange();
        page.fill();
        return page.lines();
    }

    public int count(int what) {
        sheet.layAll(page);
        switch (what) {
            case 0: return page.words;
            case 1: return page.lines();
            case 2: return page.width;
            case 3: return page.slack;
            case 4: return page.badnessOfAll();
            case 5: return sheet.greatestReach(0, page.words);
            case 6: return page.words - page.lines();
            case 7: return sheet.joints(page);
            case 8: return page.frozenLines();
            case 9: return history.states;
            case 10: return text.length;
            case 11: return sheet.gapsOfGreatestReach(page.words);
            default: return INVALID_ARGUMENT;
        }
    }

    public int word(int word, int what) {
        if (!isWithin(word, 0, page.words - 1)) {
            return INVALID_ARGUMENT;
        }
        sheet.layAll(page);
        switch (what) {
            case 0: return page.lengthOf(word);
            case 1: return page.lineOf(word);
            case 2: return sheet.columnOf(word);
            default: return INVALID_ARGUMENT;
        }
    }

    public int line(int line, int what) {
        if (!page.hasLine(line)) {
            return INVALID_ARGUMENT;
        }
        int first = page.firstOf(line);
        int end = page.endOf(first);
        sheet.layAll(page);
        switch (what) {
            case 0: return first;
            case 1: return end - first;
            case 2: return page.extra(first, end);
            case 3: return page.badness(first, end);
            case 4: return end - first - 1;
            case 5: return page.isFrozen(first) ? 1 : 0;
            case 6: return sheet.greatestReach(first, end);
            default: return INVALID_ARGUMENT;
        }
    }

    public int undo() {
        if (history.states == 0) {
            return NOT_POSSIBLE;
        }
        history.restoreLatest(page);
        search.forget();
        return history.states;
    }

    // ---- gaps and rivers

    public int gap(int line, int gap, int what) {
        if (!page.hasLine(line)) {
            return INVALID_ARGUMENT;
        }
        int first = page.firstOf(line);
        int end = page.endOf(first);
        if (!isWithin(gap, 0, end - first - 2)) {
            return INVALID_ARGUMENT;
        }
        int before = first + gap;
        sheet.layAll(page);
        switch (what) {
            case 0: return sheet.gapColumn(before);
            case 1: return sheet.gapWidth(before);
            case 2: return sheet.reachOf(before);
            case 3: return sheet.gapsThatMeet(before, page.firstOf(line - 1), first);
            case 4: return sheet.gapsThatMeet(before, end, page.endOf(end));
            default: return INVALID_ARGUMENT;
        }
    }

    public int river(int index, int what) {
        if (index < 0 || !isWithin(what, 0, 1)) {
            return INVALID_ARGUMENT;
        }
        sheet.layAll(page);
        int longest = sheet.greatestReach(0, page.words);
        if (index >= longest) {
            return NOT_FOUND;
        }
        int before = sheet.firstOfReach(longest, 0, page.words);
        for (int step = 0; step < index; step++) {
            before = gapAbove(before);
        }
        int line = page.lineOf(before);
        return what == 0 ? line : before - page.firstOf(line);
    }

    public int at(int line, int column) {
        if (!page.hasLine(line) || !isWithin(column, 0, page.width - 1)) {
            return INVALID_ARGUMENT;
        }
        sheet.layAll(page);
        int first = page.firstOf(line);
        int end = page.endOf(first);
        for (int word = first; word < end; word++) {
            int begin = sheet.columnOf(word);
            if (column >= begin && column < begin + page.lengthOf(word)) {
                return word;
            }
        }
        return NOT_FOUND;
    }

    // ---- dams

    public int plan(int length, int what) {
        if (!isWithin(length, 1, MOST_DAM) || !isWithin(what, 0, 3)) {
            return INVALID_ARGUMENT;
        }
        search.solve(page, length);
        if (!search.hasFound()) {
            return NOT_FOUND;
        }
        switch (what) {
            case 0: return search.bestChanged();
            case 1: return search.bestLines;
            case 2: return search.bestBadness();
            default: return search.bestRiver;
        }
    }

    public int planned(int length, int line) {
        if (!isWithin(length, 1, MOST_DAM) || line < 0) {
            return INVALID_ARGUMENT;
        }
        search.solve(page, length);
        if (!search.hasFound() || line >= search.bestLines) {
            return NOT_FOUND;
        }
        return search.bestWords(line);
    }

    public int dam(int length) {
        if (!isWithin(length, 1, MOST_DAM)) {
            return INVALID_ARGUMENT;
        }
        search.solve(page, length);
        if (!search.hasFound()) {
            return NOT_POSSIBLE;
        }
        int changed = search.bestChanged();
        beginChange();
        search.divide(page);
        return changed;
    }

    public int leastRiver() {
        for (int length = 1; length <= MOST_DAM; length++) {
            search.solve(page, length);
            if (search.hasFound()) {
                return length;
            }
        }
        return NOT_FOUND;
    }

    // ---- texts

    public int type(int character) {
        if (!isWithin(character, BLANK, LAST_CHARACTER)) {
            return INVALID_ARGUMENT;
        }
        if (text.length >= MOST_CHARACTERS) {
            return LIMIT_REACHED;
        }
        text.append(character);
        return text.length;
    }

    public int clearText() {
        int previous = text.length;
        text.length = 0;
        return previous;
    }

    public int fault() {
        return text.firstFault();
    }

    public int read() {
        if (text.firstFault() != NOT_FOUND) {
            return NOT_POSSIBLE;
        }
        beginChange();
        text.giveWords(page);
        page.fill();
        return page.words;
    }

    private void beginChange() {
        history.keep(page);
        search.forget();
    }

    /** The gap by which the longest river goes on above a gap; both are named by the word before. */
    private int gapAbove(int before) {
        int line = page.lineOf(before);
        int from = page.firstOf(line - 1);
        int end = page.firstOf(line);
        for (int above = from; above < end; above++) {
            if (sheet.meet(above, before) && sheet.reachOf(above) == sheet.reachOf(before) - 1) {
                return above;
            }
        }
        return before;
    }

    private static boolean isWithin(int number, int least, int most) {
        return number >= least && number <= most;
    }

    /** A row of numbers that answers 0 outside of its length, so that no index can be wrong. */
    private static final class Row {
        private final int[] cells;

        Row(int length) {
            cells = new int[Math.max(length, 0)];
        }

        int get(int index) {
            return index >= 0 && index < cells.length ? cells[index] : 0;
        }

        void set(int index, int number) {
            if (index >= 0 && index < cells.length) {
                cells[index] = number;
            }
        }

        void clear() {
            for (int index = 0; index < cells.length; index++) {
                cells[index] = 0;
            }
        }

        void copyFrom(Row other) {
            for (int index = 0; index < cells.length; index++) {
                cells[index] = other.get(index);
            }
        }
    }

    /** The words, their division into lines and the settings: what a change can be undone to. */
    private static final class Page {
        int width = FIRST_WIDTH;
        int slack = FIRST_SLACK;
        int words = 0;
        private final Row lengths = new Row(MOST_WORDS);
        private final Row begins = new Row(MOST_WORDS);
        // A frozen line keeps its words, so its first word can bear its mark.
        private final Row frozen = new Row(MOST_WORDS);

        void copyFrom(Page other) {
            width = other.width;
            slack = other.slack;
            words = other.words;
            lengths.copyFrom(other.lengths);
            begins.copyFrom(other.begins);
            frozen.copyFrom(other.frozen);
        }

        void removeAll() {
            words = 0;
            begins.clear();
            frozen.clear();
        }

        void append(int length) {
            lengths.set(words, length);
            words++;
        }

        void dropLast() {
            words--;
            begins.set(words, 0);
        }

        void begin(int word) {
            if (word < words) {
                begins.set(word, 1);
            }
        }

        void join(int word) {
            begins.set(word, 0);
        }

        void joinAll() {
            begins.clear();
        }

        void setFrozen(int first, int mark) {
            frozen.set(first, mark);
        }

        boolean isFrozen(int first) {
            return frozen.get(first) == 1;
        }

        int lengthOf(int word) {
            return lengths.get(word);
        }

        int lines() {
            int lines = 0;
            for (int word = 0; word < words; word++) {
                lines += begins.get(word);
            }
            return lines;
        }

        int frozenLines() {
            int lines = 0;
            for (int word = 0; word < words; word++) {
                lines += frozen.get(word);
            }
            return lines;
        }

        boolean hasLine(int line) {
            return line >= 0 && line < lines();
        }

        /** The first word of a line; 0 before the first line, the number of words behind the last. */
        int firstOf(int line) {
            int passed = 0;
            for (int word = 0; word < words; word++) {
                passed += begins.get(word);
                if (passed > line) {
                    return word;
                }
            }
            return words;
        }

        /** The word behind the line that begins with the word first. */
        int endOf(int first) {
            for (int word = first + 1; word < words; word++) {
                if (begins.get(word) == 1) {
                    return word;
                }
            }
            return words;
        }

        int lineOf(int word) {
            int line = -1;
            for (int passed = 0; passed <= word && passed < words; passed++) {
                line += begins.get(passed);
            }
            return line;
        }

        boolean isLine(int first, int end) {
            return begins.get(first) == 1 && endOf(first) == end;
        }

        boolean hasFrozen(int from, int end) {
            for (int word = from; word < end; word++) {
                if (isFrozen(word)) {
                    return true;
                }
            }
            return false;
        }

        int extra(int first, int end) {
            int extra = width - (end - first - 1);
            for (int word = first; word < end; word++) {
                extra -= lengths.get(word);
            }
            return extra;
        }

        boolean fits(int first, int end) {
            return extra(first, end) >= 0;
        }

        int badness(int first, int end) {
            int extra = extra(first, end);
            return end >= words ? 0 : extra * extra;
        }

        int badnessOfAll() {
            int sum = 0;
            for (int word = 0; word < words; word++) {
                if (begins.get(word) == 1) {
                    sum += badness(word, endOf(word));
                }
            }
            return sum;
        }

        /** Fills all lines greedily. */
        void fill() {
            joinAll();
            int first = 0;
            for (int word = 0; word < words; word++) {
                if (!fits(first, word + 1)) {
                    first = word;
                }
                begin(first);
            }
        }
    }

    /** The states before the latest changes, the oldest one first. */
    private static final class History {
        int states = 0;
        private final Page[] pages = new Page[MOST_STATES];

        History() {
            for (int index = 0; index < pages.length; index++) {
                pages[index] = new Page();
            }
        }

        void keep(Page page) {
            if (states >= pages.length) {
                dropOldest();
            }
            Page kept = pageAt(states);
            if (kept != null) {
                kept.copyFrom(page);
                states++;
            }
        }

        void restoreLatest(Page page) {
            Page kept = pageAt(states - 1);
            if (kept != null) {
                page.copyFrom(kept);
                states--;
            }
        }

        // The dropped page goes to the end, where it is written anew: no call makes an object.
        private void dropOldest() {
            Page oldest = pageAt(0);
            for (int index = 1; index < pages.length; index++) {
                pages[index - 1] = pages[index];
            }
            if (pages.length > 0) {
                pages[pages.length - 1] = oldest;
            }
            states = pages.length - 1;
        }

        private Page pageAt(int index) {
            return index >= 0 && index < pages.length ? pages[index] : null;
        }
    }

    /** Where the words and gaps of lines stand, and the reach of each gap. */
    private static final class Sheet {
        private final Row columns = new Row(MOST_WORDS);
        private final Row gapColumns = new Row(MOST_WORDS);
        private final Row gapWidths = new Row(MOST_WORDS);
        private final Row reaches = new Row(MOST_WORDS);

        int columnOf(int word) {
            return columns.get(word);
        }

        int gapColumn(int before) {
            return gapColumns.get(before);
        }

        int gapWidth(int before) {
            return gapWidths.get(before);
        }

        int reachOf(int before) {
            return reaches.get(before);
        }

        void layAll(Page page) {
            int previous = 0;
            int first = 0;
            for (int line = 0; line < MOST_WORDS && first < page.words; line++) {
                int end = page.endOf(first);
                layLine(page, previous, first, end);
                previous = first;
                first = end;
            }
        }

        /**
         * Lays the words from first to before end as a line below the one that begins with the word
         * previous (first itself, if there is none), and returns the greatest reach of its gaps.
         */
        int layLine(Page page, int previous, int first, int end) {
            placeWords(page, first, end);
            int greatest = 0;
            for (int before = first; before < end; before++) {
                int reach = 0;
                if (before < end - 1) {
                    reach = 1 + reachAbove(before, previous, first);
                }
                reaches.set(before, reach);
                greatest = Math.max(greatest, reach);
            }
            return greatest;
        }

        private void placeWords(Page page, int first, int end) {
            int gaps = end - first - 1;
            int given = end >= page.words ? 0 : page.extra(first, end);
            int each = gaps > 0 ? given / gaps : 0;
            int wider = gaps > 0 ? given % gaps : 0;
            int column = 0;
            for (int word = first; word < end; word++) {
                int width = 0;
                if (word < end - 1) {
                    width = 1 + each + (word - first < wider ? 1 : 0);
                }
                columns.set(word, column);
                column += page.lengthOf(word);
                gapColumns.set(word, column);
                gapWidths.set(word, width);
                column += width;
            }
        }

        private int reachAbove(int before, int from, int end) {
            int greatest = 0;
            for (int above = from; above < end; above++) {
                if (meet(above, before)) {
                    greatest = Math.max(greatest, reaches.get(above));
                }
            }
            return greatest;
        }

        /** Whether two gaps have a common column; behind the last word of a line there is no gap. */
        boolean meet(int one, int other) {
            int oneBegin = gapColumns.get(one);
            int otherBegin = gapColumns.get(other);
            int oneEnd = oneBegin + gapWidths.get(one);
            int otherEnd = otherBegin + gapWidths.get(other);
            return Math.max(oneBegin, otherBegin) < Math.min(oneEnd, otherEnd);
        }

        /** The number of gaps behind the words from from to before end that meet a gap. */
        int gapsThatMeet(int before, int from, int end) {
            int gaps = 0;
            for (int other = from; other < end; other++) {
                if (meet(other, before)) {
                    gaps++;
                }
            }
            return gaps;
        }

        int greatestReach(int from, int end) {
            int greatest = 0;
            for (int before = from; before < end; before++) {
                greatest = Math.max(greatest, reaches.get(before));
            }
            return greatest;
        }

        int gapsOfGreatestReach(int words) {
            int greatest = greatestReach(0, words);
            int gaps = 0;
            for (int before = 0; before < words; before++) {
                if (greatest > 0 && reaches.get(before) == greatest) {
                    gaps++;
                }
            }
            return gaps;
        }

        int firstOfReach(int reach, int from, int end) {
            for (int before = from; before < end; before++) {
                if (reaches.get(before) == reach) {
                    return before;
                }
            }
            return from;
        }

        int joints(Page page) {
            int joints = 0;
            for (int before = 0; before < page.words; before++) {
                int line = page.lineOf(before);
                if (gapsThatMeet(before, page.firstOf(line - 1), page.firstOf(line)) >= 2) {
                    joints++;
                }
            }
            return joints;
        }
    }

    /**
     * The search for the best division with a dam. It tries all lines from the first one on, those
     * with more words first, and leaves what can't become better than the best division so far:
     * of equally good ones the first one found then has more words in the first other line.
     */
    private static final class Search {
        // One changed line weighs more than the badness of all lines together (24 * 40 * 40).
        private static final int CHANGED_LINE = 100_000;
        private static final int NEVER = 1_000_000_000;

        int bestLines = 0;
        int bestRiver = 0;
        private int bestPrice = NEVER;
        private int limit = 0;
        private final Page page = new Page();
        private final Sheet sheet = new Sheet();
        private final Row prices = new Row(MOST_WORDS * MOST_WORDS);
        private final Row leastPrices = new Row(MOST_WORDS + 1);
        private final Row tried = new Row(MOST_WORDS);
        private final Row best = new Row(MOST_WORDS);

        /** The page has changed: what was found is not true of it any more. */
        void forget() {
            limit = 0;
        }

        void solve(Page now, int length) {
            if (limit == length) {
                return;
            }
            limit = length;
            page.copyFrom(now);
            setPrices();
            bestPrice = NEVER;
            bestLines = 0;
            bestRiver = 0;
            tryLines(this, 0, 0, 0, 0, 0);
        }

        boolean hasFound() {
            return bestPrice < NEVER;
        }

        int bestChanged() {
            return bestPrice / CHANGED_LINE;
        }

        int bestBadness() {
            return bestPrice % CHANGED_LINE;
        }

        int bestWords(int line) {
            return best.get(line);
        }

        /** Gives the page the lines of the best division. */
        void divide(Page target) {
            target.joinAll();
            int first = 0;
            for (int line = 0; line < bestLines; line++) {
                target.begin(first);
                first += best.get(line);
            }
        }

        /** Sets the price of each line, and the least price of all lines from each word on. */
        private void setPrices() {
            leastPrices.set(page.words, 0);
            for (int first = page.words - 1; first >= 0; first--) {
                int least = NEVER;
                for (int end = first + 1; end <= page.words; end++) {
                    int price = priceOf(first, end);
                    prices.set(cellOf(first, end), price);
                    least = Math.min(least, price + leastPrices.get(end));
                }
                leastPrices.set(first, least);
            }
        }

        private int priceOf(int first, int end) {
            boolean stands = page.isLine(first, end);
            int extra = page.extra(first, end);
            if (extra < 0 || page.hasFrozen(first + 1, end)) {
                return NEVER;
            }
            if (page.isFrozen(first) && !stands) {
                return NEVER;
            }
            if (!page.isFrozen(first) && end < page.words && extra > page.slack) {
                return NEVER;
            }
            return page.badness(first, end) + (stands ? 0 : CHANGED_LINE);
        }

        private static int cellOf(int first, int end) {
            return first * MOST_WORDS + end - first - 1;
        }

        private void keepTried(int lines, int price, int river) {
            bestPrice = price;
            bestLines = lines;
            bestRiver = river;
            best.copyFrom(tried);
        }

        /** Tries all lines that begin with the word first, below the line that begins with previous. */
        private static void tryLines(Search search, int line, int previous, int first, int price,
                int river) {
            if (first >= search.page.words) {
                search.keepTried(line, price, river);
                return;
            }
            if (line >= MOST_WORDS) {
                return;
            }
            for (int end = search.page.words; end > first; end--) {
                int then = price + search.prices.get(cellOf(first, end));
                if (then >= search.bestPrice
                        || then + search.leastPrices.get(end) >= search.bestPrice) {
                    continue;
                }
                int reach = search.sheet.layLine(search.page, previous, first, end);
                if (reach <= search.limit) {
                    search.tried.set(line, end - first);
                    tryLines(search, line + 1, first, end, then, Math.max(river, reach));
                }
            }
        }
    }

    /** The text: characters, of which those that are not blanks make words. */
    private static final class Text {
        int length = 0;
        private final Row characters = new Row(MOST_CHARACTERS);

        void append(int character) {
            characters.set(length, character);
            length++;
        }

        /** The position of the first character that can't stand where it stands, or NOT_FOUND. */
        int firstFault() {
            int words = 0;
            int run = 0;
            for (int position = 0; position < length; position++) {
                if (characters.get(position) == BLANK) {
                    if (run == 0 || position == length - 1) {
                        return position;
                    }
                    run = 0;
                } else {
                    words += run == 0 ? 1 : 0;
                    run++;
                    if (run > LONGEST_WORD || words > MOST_WORDS) {
                        return position;
                    }
                }
            }
            return NOT_FOUND;
        }

        /** Gives the page the words of a text without fault instead of its own. */
        void giveWords(Page page) {
            page.removeAll();
            int run = 0;
            for (int position = 0; position < length; position++) {
                if (characters.get(position) != BLANK) {
                    run++;
                } else {
                    page.append(run);
                    run = 0;
                }
            }
            if (run > 0) {
                page.append(run);
            }
        }
    }
}
