import java.util.Arrays;

/** A printing house by hand; what each call answers stands in the document, promise by promise. */
public final class TypeHouse {
    public static final int NONE = -1, BAD = -2, STATE = -3, FULL = -4;

    private static final int NO_SUCH = -5;
    private static final int FAULT_BASE = -10;

    private static final int TAPE_SIZE = 300;
    private static final int LETTERS = 26;
    private static final int BLANK = 32, LINE_END = 33;
    private static final int MAX_CAST = 1000, MAX_SORTS = 5000;
    private static final int MAX_PAGES = 48, MAX_COPY = 120;
    private static final int HANDS = 6;
    private static final int MAX_SHEETS = 6, MAX_COPIES = 60, FORMATS = 3;
    private static final int MAX_LEAVES = 8;
    private static final int OUTER = 0, INNER = 1;
    private static final int SKELETONS = 4, MAX_CHANGES = 30;
    private static final int MAX_REAM = 60, MAX_PAPER = 10000, MAX_RUN = 60;
    private static final int BROKEN = 6, FORMES = 12, MAX_WEAR = 9, MAX_ORDER = 7;
    private static final int WORDS = 4, MAX_CLAUSES = 8, MAX_DIGITS = 4;
    private static final int WORD_SET = 0, WORD_FAULT = 1, WORD_PRINT = 2, WORD_SPOIL = 3;
    private static final int MAX_JOBS = 7, MAX_HOURS = 50, MAX_DUE = 500;

    private final Tape tape = new Tape();
    private final int[] sortsOf = new int[LETTERS];
    private final int[] needed = new int[LETTERS];
    private final Page[] pages = new Page[MAX_PAGES];
    private int pageCount;
    private final Folding[] foldings = new Folding[FORMATS];
    private final Sheet[] sheets = new Sheet[MAX_SHEETS];
    private int sheetCount;
    private final boolean[] skeletonTaken = new boolean[SKELETONS];
    private int paperLeft;
    private final Hands hands = new Hands();
    private final BrokenLetters broken = new BrokenLetters();
    private final Law theLaw = new Law();
    private final Jobs jobs = new Jobs();

    public TypeHouse() {
        foldings[0] = new Folding(2, 1);
        foldings[1] = new Folding(2, 2);
        foldings[2] = new Folding(4, 2);
    }

    // ---- type, pages

    public int feed(long w, int n) {
        if (n < 1 || n > 8) {
            return BAD;
        }
        if (tape.size + n > TAPE_SIZE) {
            return FULL;
        }
        tape.append(w, n);
        return tape.size;
    }

    public int cast(int letter, int n) {
        if (!isLetter(letter)) {
            return NONE;
        }
        if (n < 1 || n > MAX_CAST) {
            return BAD;
        }
        if (sortsOf[letter] + n > MAX_SORTS) {
            return FULL;
        }
        sortsOf[letter] += n;
        return sortsOf[letter];
    }

    public int sorts(int letter) {
        return isLetter(letter) ? sortsOf[letter] : NONE;
    }

    public int page() {
        if (tape.size == 0) {
            return BAD;
        }
        if (pageCount >= MAX_PAGES) {
            return FULL;
        }
        int wrong = tape.firstNotOfCopy();
        if (wrong != NONE) {
            tape.size = 0;
            return FAULT_BASE - wrong;
        }
        pages[pageCount] = new Page(pageCount, tape);
        tape.size = 0;
        pageCount++;
        return pageCount - 1;
    }

    public int set(int page, int hand) {
        Page it = findPage(page);
        if (it == null || !isHand(hand)) {
            return NONE;
        }
        if (it.isSet) {
            return STATE;
        }
        int missing = firstMissing(it);
        if (missing != NONE) {
            return FAULT_BASE - missing;
        }
        for (int letter = 0; letter < LETTERS; letter++) {
            sortsOf[letter] -= needed[letter];
        }
        it.compose(hand);
        hands.lettersSet[hand] += it.letters;
        return it.letters;
    }

    public int misset(int page, int place, int letter) {
        Page it = findPage(page);
        if (it == null || !it.hasPlace(place) || !isLetter(letter)) {
            return NONE;
        }
        if (!it.isSet) {
            return STATE;
        }
        int stood = it.standing[place];
        if (stood == letter || !isLetter(stood)) {
            return BAD;
        }
        boolean corrects = it.isInForme() && it.home.made > 0;
        if (sortsOf[letter] < 1 || corrects && it.home.changes >= MAX_CHANGES) {
            return FULL;
        }
        sortsOf[stood]++;
        sortsOf[letter]--;
        it.standing[place] = letter;
        if (corrects) {
            it.home.noteChange(page, place, letter);
        }
        return stood;
    }

    public int distribute(int page) {
        Page it = findPage(page);
        if (it == null) {
            return NONE;
        }
        if (!it.isSet || it.isInForme()) {
            return STATE;
        }
        for (int place = 0; place < it.standing.length; place++) {
            int stood = it.standing[place];
            if (isLetter(stood)) {
                sortsOf[stood]++;
            }
        }
        it.isSet = false;
        return it.letters;
    }

    public int at(int page, int place, int what) {
        Page it = findPage(page);
        if (it == null || !it.hasPlace(place) || what < 0 || what > 1) {
            return NONE;
        }
        if (what == 0) {
            return it.copy[place];
        }
        return it.isSet ? it.standing[place] : STATE;
    }

    public int faults(int page) {
        Page it = findPage(page);
        if (it == null) {
            return NONE;
        }
        return it.isSet ? it.countFaults() : STATE;
    }

    public int fault(int page, int i) {
        Page it = findPage(page);
        if (it == null) {
            return NONE;
        }
        return it.isSet ? it.placeOfFault(i) : STATE;
    }

    // ---- sheets, formes

    public int sheet(int format, int first, int copies) {
        if (!isFormat(format) || copies < 1 || copies > MAX_COPIES) {
            return BAD;
        }
        Folding folding = foldings[format - 1];
        if (first < 0 || first > pageCount - folding.faces()) {
            return NONE;
        }
        for (int k = 0; k < folding.faces(); k++) {
            if (pages[first + k].home != null) {
                return STATE;
            }
        }
        if (sheetCount >= MAX_SHEETS) {
            return FULL;
        }
        sheets[sheetCount] = new Sheet(first, copies, folding.faces());
        sheets[sheetCount].takePages(folding, pages);
        sheetCount++;
        return sheetCount - 1;
    }

    public int fold(int format, int column, int row, int side, int what) {
        if (!isFormat(format)) {
            return BAD;
        }
        Folding folding = foldings[format - 1];
        if (!folding.hasLeaf(column, row) || !isSide(side) || what < 0 || what > 1) {
            return NONE;
        }
        int leaf = folding.leafAt(column, row);
        return what == 0 ? folding.pageOnFace[2 * leaf + side] : folding.turnedLeaf[leaf];
    }

    public int impose(int forme, int skeleton) {
        Forme it = findForme(forme);
        if (it == null || skeleton < 0 || skeleton >= SKELETONS) {
            return NONE;
        }
        if (it.isImposed() || it.made > 0 || skeletonTaken[skeleton] || !it.allPagesSet()) {
            return STATE;
        }
        it.skeleton = skeleton;
        skeletonTaken[skeleton] = true;
        return it.pages.length;
    }

    public int breakUp(int forme) {
        Forme it = findForme(forme);
        if (it == null) {
            return NONE;
        }
        if (!it.isImposed() || it.made > 0 && !it.hasAll()) {
            return STATE;
        }
        int skeleton = it.skeleton;
        it.skeleton = NONE;
        skeletonTaken[skeleton] = false;
        return skeleton;
    }

    public int paper(int n) {
        if (n < 1 || n > MAX_REAM) {
            return BAD;
        }
        if (paperLeft + n > MAX_PAPER) {
            return FULL;
        }
        paperLeft += n;
        return paperLeft;
    }

    public int print(int forme, int hand, int n) {
        Forme it = findForme(forme);
        if (it == null || !isHand(hand)) {
            return NONE;
        }
        if (n < 1 || n > MAX_RUN) {
            return BAD;
        }
        Sheet of = sheets[forme >> 1];
        int side = forme & 1;
        if (!it.isImposed() || !of.mayBePrintedOn(side)) {
            return STATE;
        }
        int run = Math.min(n, of.copies - it.made);
        boolean takesPaper = of.isFirstSide(side);
        if (takesPaper) {
            run = Math.min(run, paperLeft);
        }
        if (run < 1) {
            return STATE;
        }
        if (takesPaper) {
            paperLeft -= run;
        }
        of.printRun(side, run);
        hands.impressions[hand] += run;
        return run;
    }

    public int forme(int forme, int what) {
        Forme it = findForme(forme);
        if (it == null) {
            return NO_SUCH;
        }
        switch (what) {
            case 0:
                return it.isImposed() ? 1 : 0;
            case 1:
                return it.skeleton;
            case 2:
                return it.made;
            case 3:
                return it.changes;
            case 4:
                return it.states;
            case 5:
                return sheets[forme >> 1].firstSide == (forme & 1) ? 1 : 0;
            default:
                return NO_SUCH;
        }
    }

    public int state(int sheet, int copy, int side) {
        Sheet it = findSheet(sheet);
        if (it == null || !it.hasCopy(copy) || !isSide(side)) {
            return NONE;
        }
        return it.formeOn(side).stateOn[copy];
    }

    public int read(int sheet, int copy, int page, int place) {
        Sheet it = findSheet(sheet);
        Page on = findPage(page);
        if (it == null || !it.hasCopy(copy) || on == null || !on.hasPlace(place)) {
            return NONE;
        }
        if (on.home == null || !it.hasPage(page)) {
            return NONE;
        }
        return on.home.shownAt(on, place, copy);
    }

    public int spoil(int sheet, int copy, int hand) {
        Sheet it = findSheet(sheet);
        if (it == null || !it.hasCopy(copy) || !isHand(hand)) {
            return NONE;
        }
        int place = it.placeAmongGood(copy);
        if (place == NONE || !it.isPrintedAtAll(copy)) {
            return STATE;
        }
        it.dropGood(place);
        hands.spoilt[hand]++;
        return it.spoiltCount();
    }

    // ---- books

    public int books() {
        int there = 0;
        for (int book = 0; book < MAX_COPIES; book++) {
            if (isBook(book)) {
                there++;
            }
        }
        return there;
    }

    public int inBook(int book, int sheet) {
        Sheet it = findSheet(sheet);
        if (it == null || !isBook(book)) {
            return NONE;
        }
        return it.good[book];
    }

    public int unlike(int a, int b) {
        if (!isBook(a) || !isBook(b)) {
            return NONE;
        }
        return sidesUnlike(a, b);
    }

    public int kinds() {
        int found = 0;
        for (int book = 0; book < MAX_COPIES; book++) {
            if (isBook(book) && !hasTwinAhead(book)) {
                found++;
            }
        }
        return found;
    }

    // ---- the order of formes

    public int seen(int letter, int forme, int wear) {
        if (letter < 0 || letter >= BROKEN || forme < 0 || forme >= FORMES) {
            return NO_SUCH;
        }
        if (wear < NONE || wear > MAX_WEAR) {
            return BAD;
        }
        return broken.replaceWear(letter, forme, wear);
    }

    public int order(int set) {
        int size = Integer.bitCount(set);
        if (set >> FORMES != 0 || size < 1 || size > MAX_ORDER) {
            return BAD;
        }
        return broken.findOrder(set);
    }

    public int ordered(int i) {
        return i >= 0 && i < broken.size ? broken.found[i] : NONE;
    }

    public int rivals() {
        return broken.size > 0 ? broken.rivalOrders : STATE;
    }

    // ---- wages, jobs

    public int law() {
        int answer = theLaw.take(tape);
        tape.size = 0;
        return answer;
    }

    public int wages(int hand) {
        if (!isHand(hand)) {
            return NONE;
        }
        long earned = theLaw.amount(WORD_SET, hands.lettersSet[hand])
            + theLaw.amount(WORD_PRINT, hands.impressions[hand]);
        long lost = theLaw.amount(WORD_FAULT, faultsNow(hand))
            + theLaw.amount(WORD_SPOIL, hands.spoilt[hand]);
        return (int) Math.max(0L, earned - lost);
    }

    public int did(int hand, int what) {
        if (!isHand(hand)) {
            return NONE;
        }
        switch (what) {
            case 0:
                return hands.lettersSet[hand];
            case 1:
                return hands.impressions[hand];
            case 2:
                return hands.spoilt[hand];
            case 3:
                return faultsNow(hand);
            default:
                return NONE;
        }
    }

    public int job(int set, int print, int due) {
        if (set < 0 || set > MAX_HOURS || print < 0 || print > MAX_HOURS || due < 0 || due > MAX_DUE) {
            return BAD;
        }
        if (jobs.size >= MAX_JOBS) {
            return FULL;
        }
        jobs.append(set, print, due);
        return jobs.size - 1;
    }

    public int plan() {
        return jobs.findPlan();
    }

    public int planned(int i, int what) {
        if (i < 0 || i >= jobs.plannedSize || what < 0 || what > 1) {
            return NONE;
        }
        return what == 0 ? jobs.best[i] : jobs.bestEnds[i];
    }

    public int count(int what) {
        switch (what) {
            case 0:
                return pageCount;
            case 1:
                return pagesSet();
            case 2:
                return sheetCount;
            case 3:
                return paperLeft;
            case 4:
                return hands.total(hands.impressions);
            case 5:
                return hands.total(hands.spoilt);
            case 6:
                return tape.size;
            case 7:
                return jobs.size;
            case 8:
                return formesImposed();
            case 9:
                return sortsInPages();
            default:
                return NONE;
        }
    }

    // ---- what the calls share

    private static boolean isLetter(int code) {
        return code >= 0 && code < LETTERS;
    }

    private static boolean isHand(int hand) {
        return hand >= 0 && hand < HANDS;
    }

    private static boolean isSide(int side) {
        return side == OUTER || side == INNER;
    }

    private static boolean isFormat(int format) {
        return format >= 1 && format <= FORMATS;
    }

    private Page findPage(int page) {
        return page >= 0 && page < pageCount ? pages[page] : null;
    }

    private Sheet findSheet(int sheet) {
        return sheet >= 0 && sheet < sheetCount ? sheets[sheet] : null;
    }

    private Forme findForme(int forme) {
        return forme >= 0 && forme < 2 * sheetCount ? sheets[forme >> 1].formeOn(forme & 1) : null;
    }

    /** Leaves in needed what the page takes of each letter. */
    private int firstMissing(Page it) {
        Arrays.fill(needed, 0);
        for (int place = 0; place < it.copy.length; place++) {
            int code = it.copy[place];
            if (isLetter(code)) {
                needed[code]++;
            }
        }
        for (int letter = 0; letter < LETTERS; letter++) {
            if (needed[letter] > sortsOf[letter]) {
                return letter;
            }
        }
        return NONE;
    }

    private boolean isBook(int book) {
        if (book < 0 || sheetCount == 0) {
            return false;
        }
        for (int k = 0; k < sheetCount; k++) {
            if (!sheets[k].hasForBook(book)) {
                return false;
            }
        }
        return true;
    }

    private int sidesUnlike(int a, int b) {
        int others = 0;
        for (int k = 0; k < sheetCount; k++) {
            others += sheets[k].unlikeSides(a, b);
        }
        return others;
    }

    private boolean hasTwinAhead(int book) {
        for (int other = 0; other < book; other++) {
            if (isBook(other) && sidesUnlike(other, book) == 0) {
                return true;
            }
        }
        return false;
    }

    private int faultsNow(int hand) {
        int sum = 0;
        for (int k = 0; k < pageCount; k++) {
            if (pages[k].isSet && pages[k].hand == hand) {
                sum += pages[k].countFaults();
            }
        }
        return sum;
    }

    private int pagesSet() {
        int sum = 0;
        for (int k = 0; k < pageCount; k++) {
            if (pages[k].isSet) {
                sum++;
            }
        }
        return sum;
    }

    private int sortsInPages() {
        int sum = 0;
        for (int k = 0; k < pageCount; k++) {
            if (pages[k].isSet) {
                sum += pages[k].letters;
            }
        }
        return sum;
    }

    private int formesImposed() {
        int sum = 0;
        for (int k = 0; k < SKELETONS; k++) {
            if (skeletonTaken[k]) {
                sum++;
            }
        }
        return sum;
    }

    /** The bytes that were fed and not yet used. */
    private static final class Tape {
        final int[] bytes = new int[TAPE_SIZE];
        int size;

        void append(long w, int n) {
            for (int k = n - 1; k >= 0; k--) {
                bytes[size] = (int) (w >>> (8 * k)) & 255;
                size++;
            }
        }

        int byteAt(int place) {
            return place >= 0 && place < size ? bytes[place] : NONE;
        }

        /** The code that at() tells of a byte: a letter, a blank, a line end, or NONE. */
        int codeAt(int place) {
            int value = byteAt(place);
            if (value >= 'a' && value <= 'z') {
                return value - 'a';
            }
            if (value == ' ') {
                return BLANK;
            }
            return value == '\n' ? LINE_END : NONE;
        }

        int firstNotOfCopy() {
            int end = Math.min(size, MAX_COPY);
            for (int place = 0; place < end; place++) {
                if (codeAt(place) == NONE) {
                    return place;
                }
            }
            return size > MAX_COPY ? MAX_COPY : NONE;
        }
    }

    private static final class Page {
        final int number;
        final int[] copy;
        final int[] standing;
        /** What was SET at its FORME's first impression: the page may be distributed and set anew later. */
        final int[] shown;
        final int letters;
        boolean isSet;
        int hand;
        Forme home;

        Page(int number, Tape tape) {
            this.number = number;
            copy = new int[tape.size];
            standing = new int[tape.size];
            shown = new int[tape.size];
            int sum = 0;
            for (int place = 0; place < copy.length; place++) {
                copy[place] = tape.codeAt(place);
                if (isLetter(copy[place])) {
                    sum++;
                }
            }
            letters = sum;
        }

        boolean hasPlace(int place) {
            return place >= 0 && place < copy.length;
        }

        boolean isInForme() {
            return home != null && home.isImposed();
        }

        void compose(int by) {
            System.arraycopy(copy, 0, standing, 0, copy.length);
            isSet = true;
            hand = by;
        }

        int countFaults() {
            int sum = 0;
            for (int place = 0; place < copy.length; place++) {
                if (standing[place] != copy[place]) {
                    sum++;
                }
            }
            return sum;
        }

        int placeOfFault(int i) {
            int ahead = 0;
            for (int place = 0; place < copy.length; place++) {
                if (standing[place] != copy[place]) {
                    if (ahead == i) {
                        return place;
                    }
                    ahead++;
                }
            }
            return NONE;
        }
    }

    /** How a FORMAT is folded: found once, by turning piles of leaves over one another. */
    private static final class Folding {
        private static final int FLIPPED = 1, FROM_BACK = 2, LEAF = 4;

        final int columns;
        final int rows;
        final int[] pageOnFace;
        final int[] turnedLeaf;

        Folding(int columns, int rows) {
            this.columns = columns;
            this.rows = rows;
            int leaves = columns * rows;
            pageOnFace = new int[2 * leaves];
            turnedLeaf = new int[leaves];
            int[] pile = foldedPile(columns, rows);
            for (int level = 0; level < leaves; level++) {
                int leaf = pile[level] / LEAF;
                int upper = (pile[level] & FLIPPED) != 0 ? OUTER : INNER;
                int fromAbove = leaves - 1 - level;
                pageOnFace[2 * leaf + upper] = 2 * fromAbove;
                pageOnFace[2 * leaf + 1 - upper] = 2 * fromAbove + 1;
                turnedLeaf[leaf] = (pile[level] & FROM_BACK) != 0 ? 1 : 0;
            }
        }

        /** The one pile at the end, from below; each entry is a leaf with its marks. */
        private static int[] foldedPile(int columns, int rows) {
            int leaves = columns * rows;
            int[] piles = new int[leaves * MAX_LEAVES];
            for (int leaf = 0; leaf < leaves; leaf++) {
                piles[leaf * MAX_LEAVES] = leaf * LEAF;
            }
            int across = columns;
            int deep = rows;
            for (int height = 1; height < leaves; height *= 2) {
                boolean fromBack = across <= deep;
                int keptAcross = fromBack ? across : across / 2;
                int keptDeep = fromBack ? deep / 2 : deep;
                for (int row = 0; row < keptDeep; row++) {
                    for (int column = 0; column < keptAcross; column++) {
                        int below = row * columns + column;
                        int turned = fromBack
                            ? (deep - 1 - row) * columns + column
                            : row * columns + across - 1 - column;
                        turnOver(piles, turned, below, height, fromBack ? FLIPPED | FROM_BACK : FLIPPED);
                    }
                }
                across = keptAcross;
                deep = keptDeep;
            }
            return piles;
        }

        private static void turnOver(int[] piles, int from, int onto, int height, int marks) {
            for (int level = 0; level < height; level++) {
                int leaf = piles[from * MAX_LEAVES + height - 1 - level];
                piles[onto * MAX_LEAVES + height + level] = leaf ^ marks;
            }
        }

        int faces() {
            return pageOnFace.length;
        }

        boolean hasLeaf(int column, int row) {
            return column >= 0 && column < columns && row >= 0 && row < rows;
        }

        int leafAt(int column, int row) {
            return row * columns + column;
        }
    }

    private static final class Forme {
        final Page[] pages;
        /** By COPY, NONE where no impression of this side was made. */
        final int[] stateOn;
        int skeleton = NONE;
        int made;
        int changes;
        int states;
        private int latestState = NONE;
        private final int[] changedPage = new int[MAX_CHANGES];
        private final int[] changedPlace = new int[MAX_CHANGES];
        private final int[] changedTo = new int[MAX_CHANGES];

        Forme(int pageTotal, int copies) {
            pages = new Page[pageTotal];
            stateOn = new int[copies];
            Arrays.fill(stateOn, NONE);
        }

        boolean isImposed() {
            return skeleton != NONE;
        }

        boolean hasAll() {
            return made == stateOn.length;
        }

        boolean allPagesSet() {
            for (int k = 0; k < pages.length; k++) {
                if (!pages[k].isSet) {
                    return false;
                }
            }
            return true;
        }

        void noteChange(int page, int place, int letter) {
            changedPage[changes] = page;
            changedPlace[changes] = place;
            changedTo[changes] = letter;
            changes++;
        }

        void impress(int copy) {
            if (made == 0) {
                keepWhatStands();
            }
            if (latestState != changes) {
                latestState = changes;
                states++;
            }
            stateOn[copy] = changes;
            made++;
        }

        private void keepWhatStands() {
            for (int k = 0; k < pages.length; k++) {
                System.arraycopy(pages[k].standing, 0, pages[k].shown, 0, pages[k].shown.length);
            }
        }

        /** A STATE tells all: what stood first, and the missettings ahead of that impression. */
        int shownAt(Page page, int place, int copy) {
            int state = stateOn[copy];
            if (state == NONE) {
                return NONE;
            }
            int code = page.shown[place];
            for (int k = 0; k < state; k++) {
                if (changedPage[k] == page.number && changedPlace[k] == place) {
                    code = changedTo[k];
                }
            }
            return code;
        }
    }

    private static final class Sheet {
        final int first;
        final int copies;
        private final int faces;
        private final Forme outer;
        private final Forme inner;
        int firstSide = NONE;
        /** The COPIES that are not SPOILT, in order: the k-th of them is in BOOK k. */
        final int[] good;
        private int goodCount;

        Sheet(int first, int copies, int faces) {
            this.first = first;
            this.copies = copies;
            this.faces = faces;
            outer = new Forme(faces / 2, copies);
            inner = new Forme(faces / 2, copies);
            good = new int[copies];
            goodCount = copies;
            for (int copy = 0; copy < copies; copy++) {
                good[copy] = copy;
            }
        }

        /** Every page of the sheet must be there: sheet() has looked. */
        void takePages(Folding folding, Page[] pages) {
            for (int face = 0; face < faces; face++) {
                Page page = pages[first + folding.pageOnFace[face]];
                page.home = formeOn(face & 1);
                page.home.pages[face >> 1] = page;
            }
        }

        Forme formeOn(int side) {
            return side == OUTER ? outer : inner;
        }

        boolean hasCopy(int copy) {
            return copy >= 0 && copy < copies;
        }

        boolean hasPage(int page) {
            return page >= first && page < first + faces;
        }

        boolean isFirstSide(int side) {
            return firstSide == NONE || firstSide == side;
        }

        boolean mayBePrintedOn(int side) {
            return isFirstSide(side) || formeOn(firstSide).hasAll();
        }

        void printRun(int side, int run) {
            if (firstSide == NONE) {
                firstSide = side;
            }
            Forme forme = formeOn(side);
            for (int k = 0; k < run; k++) {
                forme.impress(side == firstSide ? forme.made : copies - 1 - forme.made);
            }
        }

        boolean isPrintedAtAll(int copy) {
            return outer.stateOn[copy] != NONE || inner.stateOn[copy] != NONE;
        }

        int placeAmongGood(int copy) {
            for (int k = 0; k < goodCount; k++) {
                if (good[k] == copy) {
                    return k;
                }
            }
            return NONE;
        }

        void dropGood(int place) {
            goodCount--;
            for (int k = place; k < goodCount; k++) {
                good[k] = good[k + 1];
            }
        }

        int spoiltCount() {
            return copies - goodCount;
        }

        boolean hasForBook(int book) {
            return book < goodCount && outer.stateOn[good[book]] != NONE && inner.stateOn[good[book]] != NONE;
        }

        int unlikeSides(int a, int b) {
            int others = 0;
            if (outer.stateOn[good[a]] != outer.stateOn[good[b]]) {
                others++;
            }
            if (inner.stateOn[good[a]] != inner.stateOn[good[b]]) {
                others++;
            }
            return others;
        }
    }

    /** What each HAND did in all. */
    private static final class Hands {
        final int[] lettersSet = new int[HANDS];
        final int[] impressions = new int[HANDS];
        final int[] spoilt = new int[HANDS];

        int total(int[] ofEach) {
            int sum = 0;
            for (int value : ofEach) {
                sum += value;
            }
            return sum;
        }
    }

    /** BROKEN letters, and the order of formes that they tell. */
    private static final class BrokenLetters {
        private final int[] wearOf = new int[BROKEN * FORMES];
        private final int[] formes = new int[MAX_ORDER];
        private final int[] quarrelsAhead = new int[MAX_ORDER * MAX_ORDER];
        /** By subset of formes: the fewest quarrels of its orders, and how many orders have so few. */
        private final int[] fewest = new int[1 << MAX_ORDER];
        private final int[] ways = new int[1 << MAX_ORDER];
        final int[] found = new int[MAX_ORDER];
        int size;
        int rivalOrders;

        BrokenLetters() {
            Arrays.fill(wearOf, NONE);
        }

        int replaceWear(int letter, int forme, int wear) {
            int was = wearOf[letter * FORMES + forme];
            wearOf[letter * FORMES + forme] = wear;
            return was;
        }

        int findOrder(int set) {
            size = 0;
            for (int forme = 0; forme < FORMES && size < MAX_ORDER; forme++) {
                if ((set >> forme & 1) != 0) {
                    formes[size] = forme;
                    size++;
                }
            }
            countPairs();
            int all = (1 << size) - 1;
            fewest[0] = 0;
            ways[0] = 1;
            for (int subset = 1; subset <= all; subset++) {
                solve(subset);
            }
            takeLeast(all);
            rivalOrders = ways[all];
            return fewest[all];
        }

        private void countPairs() {
            for (int a = 0; a < size; a++) {
                for (int b = 0; b < size; b++) {
                    quarrelsAhead[a * MAX_ORDER + b] = quarrelsOf(formes[a], formes[b]);
                }
            }
        }

        private int quarrelsOf(int ahead, int behind) {
            int sum = 0;
            for (int letter = 0; letter < BROKEN; letter++) {
                int later = wearOf[letter * FORMES + behind];
                if (later != NONE && wearOf[letter * FORMES + ahead] > later) {
                    sum++;
                }
            }
            return sum;
        }

        /** The quarrels of an order of the subset that begins with this one and is the best behind it. */
        private int withHead(int head, int subset) {
            int rest = subset & ~(1 << head);
            int sum = fewest[rest];
            for (int k = 0; k < size; k++) {
                if ((rest >> k & 1) != 0) {
                    sum += quarrelsAhead[head * MAX_ORDER + k];
                }
            }
            return sum;
        }

        private void solve(int subset) {
            int least = Integer.MAX_VALUE;
            int orders = 0;
            for (int head = 0; head < size; head++) {
                if ((subset >> head & 1) == 0) {
                    continue;
                }
                int quarrels = withHead(head, subset);
                if (quarrels < least) {
                    least = quarrels;
                    orders = 0;
                }
                if (quarrels == least) {
                    orders += ways[subset & ~(1 << head)];
                }
            }
            fewest[subset] = least;
            ways[subset] = orders;
        }

        private void takeLeast(int all) {
            int left = all;
            for (int place = 0; place < size; place++) {
                int head = leastHead(left);
                found[place] = formes[head];
                left &= ~(1 << head);
            }
        }

        private int leastHead(int subset) {
            for (int head = 0; head < size; head++) {
                if ((subset >> head & 1) != 0 && withHead(head, subset) == fewest[subset]) {
                    return head;
                }
            }
            return 0;
        }
    }

    /** THE LAW, and the reader that takes a new one from a tape. */
    private static final class Law {
        private final int[] times = new int[WORDS];
        private final int[] over = new int[WORDS];
        private final int[] newTimes = new int[WORDS];
        private final int[] newOver = new int[WORDS];
        private int place;

        Law() {
            Arrays.fill(over, 1);
        }

        long amount(int word, int howMany) {
            return over[word] > 0 ? (long) howMany * times[word] / over[word] : 0L;
        }

        /** Answers how many clauses there are, or -10 less the fault. */
        int take(Tape tape) {
            Arrays.fill(newTimes, 0);
            Arrays.fill(newOver, 1);
            place = 0;
            int clauses = 0;
            do {
                if (!readClause(tape)) {
                    return FAULT_BASE - place;
                }
                clauses++;
            } while (clauses < MAX_CLAUSES && skip(tape, ';'));
            if (place < tape.size) {
                return FAULT_BASE - place;
            }
            System.arraycopy(newTimes, 0, times, 0, WORDS);
            System.arraycopy(newOver, 0, over, 0, WORDS);
            return clauses;
        }

        private boolean readClause(Tape tape) {
            int word = readWord(tape);
            if (word == NONE || !skip(tape, '=')) {
                return false;
            }
            int first = readNumber(tape, 0);
            if (first == NONE) {
                return false;
            }
            int second = 1;
            if (skip(tape, '/')) {
                second = readNumber(tape, 1);
                if (second == NONE) {
                    return false;
                }
            }
            newTimes[word] = first;
            newOver[word] = second;
            return true;
        }

        private boolean skip(Tape tape, char sign) {
            if (tape.byteAt(place) != sign) {
                return false;
            }
            place++;
            return true;
        }

        /** Where no word stands, place is left behind the longest start of one: there is the fault. */
        private int readWord(Tape tape) {
            int longest = 0;
            for (int word = 0; word < WORDS; word++) {
                String text = textOf(word);
                int same = sameAs(tape, text);
                if (same == text.length()) {
                    place += same;
                    return word;
                }
                longest = Math.max(longest, same);
            }
            place += longest;
            return NONE;
        }

        private static String textOf(int word) {
            switch (word) {
                case WORD_SET:
                    return "set";
                case WORD_FAULT:
                    return "fault";
                case WORD_PRINT:
                    return "print";
                default:
                    return "spoil";
            }
        }

        private int sameAs(Tape tape, String text) {
            for (int k = 0; k < text.length(); k++) {
                if (tape.byteAt(place + k) != text.charAt(k)) {
                    return k;
                }
            }
            return text.length();
        }

        /** A 0 ends the number at once, so that a digit behind it is left as the fault. */
        private int readNumber(Tape tape, int least) {
            int value = digitHere(tape);
            if (value < least) {
                return NONE;
            }
            place++;
            for (int digits = 1; digits < MAX_DIGITS && value > 0; digits++) {
                int digit = digitHere(tape);
                if (digit == NONE) {
                    break;
                }
                value = 10 * value + digit;
                place++;
            }
            return value;
        }

        private int digitHere(Tape tape) {
            int value = tape.byteAt(place);
            return value >= '0' && value <= '9' ? value - '0' : NONE;
        }
    }

    private static final class Jobs {
        private final int[] setHours = new int[MAX_JOBS];
        private final int[] printHours = new int[MAX_JOBS];
        private final int[] dueHour = new int[MAX_JOBS];
        int size;
        private final int[] trial = new int[MAX_JOBS];
        private final int[] trialEnds = new int[MAX_JOBS];
        final int[] best = new int[MAX_JOBS];
        final int[] bestEnds = new int[MAX_JOBS];
        int plannedSize;
        private int bestLate;
        private int bestFinish;

        void append(int set, int print, int due) {
            setHours[size] = set;
            printHours[size] = print;
            dueHour[size] = due;
            size++;
        }

        /** Jobs never go nor change, so a plan of as many jobs still holds. */
        int findPlan() {
            if (plannedSize != size) {
                bestLate = Integer.MAX_VALUE;
                bestFinish = Integer.MAX_VALUE;
                tryFrom(0, 0, 0, 0, 0);
                plannedSize = size;
            }
            return bestLate;
        }

        /** Orders are tried from the least on, so only a better one takes the place of the best. */
        private void tryFrom(int place, int used, int setEnd, int printEnd, int late) {
            if (late > bestLate || late == bestLate && printEnd >= bestFinish) {
                return;
            }
            if (place >= size) {
                bestLate = late;
                bestFinish = printEnd;
                System.arraycopy(trial, 0, best, 0, size);
                System.arraycopy(trialEnds, 0, bestEnds, 0, size);
                return;
            }
            for (int job = 0; job < size; job++) {
                if ((used >> job & 1) == 0) {
                    int isSetAt = setEnd + setHours[job];
                    int end = Math.max(isSetAt, printEnd) + printHours[job];
                    trial[place] = job;
                    trialEnds[place] = end;
                    tryFrom(place + 1, used | 1 << job, isSetAt, end, late + Math.max(0, end - dueHour[job]));
                }
            }
        }
    }
}
