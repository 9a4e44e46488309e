import java.io.IOException;

/** The sentences of the document that name no bound, from its first line to its last, each with a case of its own. */
public final class SentencesTest {
    private final Cases cases;

    private SentencesTest(Cases cases) {
        this.cases = cases;
    }

    public static void main(String[] args) throws IOException {
        SentencesTest test = new SentencesTest(new Cases());
        test.whatIsSet();
        test.whatIsMisset();
        test.whatIsDistributed();
        test.pagesOfASheet();
        test.copiesInTheHeap();
        test.foldedFromTheRight();
        test.foldedFromTheBack();
        test.foldedThreeTimes();
        test.sidesOfASheet();
        test.imposedTillBrokenUp();
        test.skeletons();
        test.copyByCopy();
        test.otherSideBegins();
        test.statesOfCopies();
        test.spoilt();
        test.booksAndKinds();
        test.seenInBoth();
        test.ordersAndRivals();
        test.clauses();
        test.amounts();
        test.didInAll();
        test.printedInTurn();
        test.latePlans();
        test.counts();
        test.cases.end();
    }

    // ---- type, pages

    private void whatIsSet() {
        cases.of("Terms 1", "what is SET is a row like the COPY", """
            cast 0,1,25 9
            tape bz_a|b
            page = 0
            at 0 0..5 0 = 1 25 32 0 33 1
            at 0 0..5 1 ! STATE
            set 0 0 = 4
            at 0 0..5 0 = 1 25 32 0 33 1
            at 0 0..5 1 = 1 25 32 0 33 1
            """);
        cases.of("Promise 4", "How many SORTS of a LETTER are in THE CASE.", """
            cast 0,1 9,1
            tape aab
            page = 0
            sorts 0..2 = 10 10 0
            set 0 0 = 3
            sorts 0..2 = 8 9 0
            """);
    }

    private void whatIsMisset() {
        cases.of("Promise 7", "TO MISSET: the LETTER that stood there.", """
            cast 0..3 5
            tape abc
            page = 0
            set 0 0 = 3
            misset 0 1 3 = 1
            misset 0 1 0 = 3
            misset 0 1 1 = 0
            """);
        cases.of("Terms 1", "one of another letter is taken from it and stands there", """
            cast 0..3 5
            tape abc
            page = 0
            set 0 0 = 3
            sorts 0..3 = 4 4 4 5
            misset 0 1 3 = 1
            sorts 0..3 = 4 5 4 4
            at 0 0..2 1 = 0 3 2
            at 0 0..2 0 = 0 1 2
            """);
        cases.of("Promise 10", "FAULTS: how many.", """
            cast 0..3 5
            tape abc
            page = 0
            set 0 0 = 3
            faults 0 = 0
            misset 0 2 3 = 2
            faults 0 = 1
            misset 0 0 1 = 0
            faults 0 = 2
            misset 0 2 1 = 3
            faults 0 = 2
            misset 0 2 2 = 1
            faults 0 = 1
            """);
    }

    private void whatIsDistributed() {
        cases.of("Promise 8", "TO DISTRIBUTE: how many SORTS.", """
            cast 0..3 5
            tape a_b|c
            page = 0
            tape _|
            page = 1
            set 0..1 0 = 3 0
            misset 0 0 3 = 0
            distribute 0..1 = 3 0
            sorts 0..3 = 5 5 5 5
            distribute 0..1 ! STATE
            """);
    }

    // ---- sheets, formes

    private void pagesOfASheet() {
        cases.of("Terms 2", "and PAGES from a first one on, as many as it has FACES", Cases.pages(30), """
            sheet 1 1 1 = 0
            sheet 1 4 1 ! STATE
            sheet 2 5 1 = 1
            sheet 1 12 1 ! STATE
            sheet 3 13 1 = 2
            sheet 1 26 1 ! STATE
            sheet 1 27 1 ! NONE
            sheet 1 28 1 ! NONE
            """);
        cases.of("Promise 12", "A SHEET more: its number.", Cases.pages(12), """
            sheet 1 8 1 = 0
            sheet 1 0 60 = 1
            sheet 1 4 2 = 2
            count 2 = 3
            """);
    }

    private void copiesInTheHeap() {
        cases.of("Terms 2", "as they lie in the heap before anything is printed", Cases.sheetOf(3), """
            print 0 0 1 = 1
            state 0 0..2 0 = 0 NONE NONE
            misset 0 0 2 = 0
            print 0 0 2 = 2
            state 0 0..2 0 = 0 1 1
            print 1 0 1 = 1
            misset 1 0 2 = 0
            print 1 0 2 = 2
            state 0 0..2 1 = 1 1 0
            spoil 0 1 0 = 1
            state 0 0..2 0 = 0 1 1
            """);
    }

    private void foldedFromTheRight() {
        cases.of("Terms 2", "else the right half of the columns onto the left half (the last column onto column 0)", """
            fold 1 1 0 0..1 0 = 0 1
            fold 1 0 0 0..1 0 = 3 2
            """);
        cases.of("Promise 13", "The PAGE of a FORMAT (0 the first of a SHEET) at a FACE: column, row, side", """
            fold 1 0..1 0 0..1 0 = 3 2 0 1
            fold 1 0..1 0 0..1 1 = 0
            """);
    }

    private void foldedFromTheBack() {
        cases.of("Terms 2", "the back half of the rows is turned over onto the front half (the last row comes onto row 0)", """
            fold 2 0..1 0 0..1 0 = 7 6 0 1
            fold 2 0..1 1 0..1 0 = 4 5 3 2
            """);
        cases.of("Terms 2", "A FACE is TURNED if its LEAF was turned over from the back an odd number of times.", """
            fold 1 0..1 0 0..1 1 = 0
            fold 2 0..1 0 0..1 1 = 0
            fold 2 0..1 1 0..1 1 = 1
            fold 3 0..3 0 0..1 1 = 0
            fold 3 0..3 1 0..1 1 = 1
            """);
    }

    /** The leaves in the order in which a sheet of paper, folded so, shows them from above. */
    private void foldedThreeTimes() {
        cases.of("Terms 2", "What is turned over lies on what was there, its own pile upside down.", """
            fold 3 1 0 0..1 0 = 0 1
            fold 3 2 0 0..1 0 = 3 2
            fold 3 2 1 0..1 0 = 4 5
            fold 3 1 1 0..1 0 = 7 6
            """);
        cases.of("Terms 2", "from above, each LEAF's upper FACE, then its lower one, are the PAGES of the SHEET in order", """
            fold 3 0 1 0..1 0 = 8 9
            fold 3 3 1 0..1 0 = 11 10
            fold 3 3 0 0..1 0 = 12 13
            fold 3 0 0 0..1 0 = 15 14
            """);
    }

    private void sidesOfASheet() {
        cases.of("Terms 2", "Each LEAF has an OUTER and an INNER FACE.", Cases.setPages(18), """
            sheet 3 2 1 = 0
            paper 1
            impose 0 0 = 8
            print 0 0 1 = 1
            read 0 0 2,5,6,9,10,13,14,17 1 = 1
            read 0 0 3,4,7,8,11,12,15,16 1 ! NONE
            impose 1 1 = 8
            print 1 0 1 = 1
            read 0 0 2..17 1 = 1
            read 0 0 0,1,18 1 ! NONE
            """);
    }

    private void imposedTillBrokenUp() {
        cases.of("Terms 2", "It is IMPOSED till it is BROKEN UP", Cases.sheetOf(2), """
            forme 0..1 0 = 1
            print 0 0 2 = 2
            forme 0 0 = 1
            distribute 0,3 ! STATE
            breakUp 0 = 0
            forme 0..1 0 = 0 1
            distribute 0,3 = 2
            distribute 1,2 ! STATE
            """);
        cases.of("Terms 2", "all its PAGES must be SET and in no FORME.", Cases.setPages(4), """
            sheet 1 0 1 = 0
            distribute 3 = 2
            impose 0 0 ! STATE
            impose 1 0 = 2
            set 3 0 = 2
            impose 0 1 = 2
            impose 0 2 ! STATE
            """);
    }

    private void skeletons() {
        cases.of("Promise 14", "the SKELETON is in a FORME", Cases.setPages(8), """
            sheet 1 0..4 1 = 0 STATE STATE STATE 1
            impose 0 3 = 2
            impose 1..3 3 ! STATE
            impose 3 0 = 2
            breakUp 0 = 3
            impose 2 3 = 2
            impose 1 0,3 ! STATE
            """);
        cases.of("Promise 15", "It is BROKEN UP: its SKELETON.", Cases.setPages(4), """
            sheet 1 0 1 = 0
            impose 0 3 = 2
            impose 1 1 = 2
            breakUp 0..1 = 3 1
            forme 0..1 1 = NONE
            impose 0 0 = 2
            breakUp 0 = 0
            """);
        cases.of("Promise 16", "blank sheets more: how many PAPER has", """
            paper 60 = 60
            paper 1 = 61
            paper 30 = 91
            count 3 = 91
            """);
    }

    private void copyByCopy() {
        cases.of("Terms 3", "A FORME that is IMPOSED is PRINTED, copy by copy", Cases.sheetOf(3), """
            print 1 0 1 = 1
            state 0 0..2 1 = 0 NONE NONE
            forme 1 2 = 1
            print 1 0 1 = 1
            state 0 0..2 1 = 0 0 NONE
            forme 1 2 = 2
            print 1 0 1 = 1
            state 0 0..2 1 = 0
            forme 1 2 = 3
            """);
        cases.of("Promise 18", "2 impressions made", Cases.sheetOf(5), """
            forme 0..1 2 = 0
            print 0 0 2 = 2
            forme 0..1 2 = 2 0
            print 0 1 3 = 3
            print 1 1 4 = 4
            forme 0..1 2 = 5 4
            """);
    }

    private void otherSideBegins() {
        cases.of("Terms 3", "which can be begun when the first one has all COPIES", Cases.sheetOf(3), """
            print 1 0 2 = 2
            print 0 0 1 ! STATE
            print 1 0 1 = 1
            print 0 0 1 = 1
            state 0 0..2 0 = NONE NONE 0
            forme 0..1 5 = 0 1
            """);
    }

    private void statesOfCopies() {
        cases.of("Promise 19", "STATE of a side on a COPY.", Cases.sheetOf(4), """
            print 0 0 1 = 1
            misset 0 0 2 = 0
            print 0 0 1 = 1
            misset 3 1 2 = 1
            misset 0 0 0 = 2
            print 0 0 2 = 2
            state 0 0..3 0 = 0 1 3 3
            state 0 0..3 1 = NONE
            print 1 0 3 = 3
            misset 1 0 3 = 0
            print 1 0 1 = 1
            state 0 0..3 1 = 1 0 0 0
            """);
    }

    private void spoilt() {
        cases.of("Terms 3", "A COPY may be SPOILT.", Cases.sheetOf(3), """
            print 0 0 2 = 2
            spoil 0 2 0 ! STATE
            spoil 0 1 0 = 1
            spoil 0 1 0..5 ! STATE
            spoil 0 0 5 = 2
            print 0 0 1 = 1
            spoil 0 2 5 = 3
            did 0..5 2 = 1 0 0 0 0 2
            """);
    }

    // ---- books

    private void booksAndKinds() {
        String threeBooks = """
            print 0 0 1
            misset 0 0 2
            print 0 0 2
            print 1 0 1
            misset 1 0 2
            print 1 0 2
            """;
        cases.of("Promise 22", "How many BOOKS there are.", Cases.sheetOf(3), threeBooks, """
            books = 3
            spoil 0 1 0 = 1
            books = 2
            spoil 0 0 0 = 2
            spoil 0 2 0 = 3
            books = 0
            """);
        cases.of("Promise 24", "UNLIKE. NONE.", Cases.sheetOf(3), threeBooks, """
            unlike 0..2 0..2 = 0 1 2 1 0 1 2 1 0
            unlike -1,3 0 ! NONE
            unlike 0 -1,3 ! NONE
            """);
        cases.of("Promise 25", "KINDS of BOOKS.", Cases.sheetOf(3), threeBooks, """
            kinds = 3
            spoil 0 0 0 = 1
            kinds = 2
            spoil 0 2 0 = 2
            kinds = 1
            """);
    }

    // ---- the order of formes

    private void seenInBoth() {
        cases.of("Terms 4", "where it was seen in both", """
            seen 0 0 9 = NONE
            order 3 = 0
            rivals = 2
            seen 1 1 0 = NONE
            order 3 = 0
            rivals = 2
            seen 0 1 8 = NONE
            order 3 = 0
            rivals = 1
            ordered 0..1 = 1 0
            seen 1 0 9 = NONE
            seen 2 0 1 = NONE
            seen 2 1 2 = NONE
            order 3 = 1
            ordered 0..1 = 1 0
            """);
        cases.of("Promise 26", "A BROKEN letter was seen in a FORME with a WEAR", """
            seen 0 0 4 = NONE
            seen 0 1 5 = NONE
            seen 1 0 6 = NONE
            seen 0 0 7 = 4
            seen 0 1 7 = 5
            seen 1 0 7 = 6
            """);
    }

    private void ordersAndRivals() {
        String chain = """
            seen 0 0 3
            seen 0 1 2
            seen 0 2 1
            seen 1 0 1
            seen 1 1 2
            """;
        cases.of("Promise 27", "THE ORDER of a set of FORMES (bits): its QUARRELS.", chain, """
            order 7 = 1
            ordered 0..3 = 2 0 1 NONE
            order 5 = 0
            ordered 0..2 = 2 0 NONE
            order 6 = 0
            ordered 0..2 = 2 1 NONE
            order 3 = 1
            ordered 0..2 = 0 1 NONE
            """);
        cases.of("Promise 29", "RIVALS of the latest order().", chain, """
            order 7 = 1
            rivals = 2
            order 5 = 0
            rivals = 1
            order 3 = 1
            rivals = 2
            """);
    }

    // ---- wages, jobs

    private void clauses() {
        cases.of("Terms 4", "WORD = number, or WORD = number / number", """
            cast 0 50
            tape a*7
            page = 0
            set 0 0 = 7
            tape set=3
            law = 1
            wages 0 = 21
            tape set=3/2
            law = 1
            wages 0 = 10
            tape set=3/2;print=1;spoil=4/4
            law = 3
            wages 0 = 10
            tape set
            law = -13
            tape set/2
            law = -13
            tape set=/2
            law = -14
            wages 0 = 10
            """);
    }

    /** Hand 2 set 8 letters, made 5 impressions, stands for 2 faults and spoilt 1. */
    private void amounts() {
        cases.of("Terms 4", "for each WORD how many, times its first number, divided by its second one", """
            cast 0..4 500
            """, Cases.pages(4), """
            set 0..3 2 = 2
            sheet 1 0 5 = 0
            paper 5
            impose 0 0 = 2
            print 0 2 5 = 5
            misset 0 0 2 = 0
            misset 1 1 2 = 1
            spoil 0 4 2 = 1
            tape set=10/3
            law = 1
            wages 2 = 26
            tape print=10/3
            law = 1
            wages 2 = 16
            tape set=100;fault=10/3
            law = 2
            wages 2 = 794
            tape set=100;spoil=10/3
            law = 2
            wages 2 = 797
            tape spoil=10/3;fault=10/3;print=10/3;set=10/3
            law = 4
            wages 2 = 33
            wages 0 = 0
            """);
    }

    private void didInAll() {
        cases.of("Promise 32", "Of a HAND what 0 letters SET in all", Cases.setPages(2), """
            did 0..1 0 = 4 0
            distribute 0 = 2
            did 0 0 = 4
            set 0 1 = 2
            did 0..1 0 = 4 2
            distribute 0 = 2
            set 0 1 = 2
            did 0..1 0 = 4 4
            misset 0 0 2 = 0
            did 0..1 0 = 4 4
            """);
    }

    private void printedInTurn() {
        cases.of("Terms 5", "and PRINTED as soon as it is SET and the one ahead is PRINTED", """
            job 1 10 500 = 0
            job 2 3 500 = 1
            job 30 4 500 = 2
            plan = 0
            planned 0..2 0 = 0 1 2
            planned 0..2 1 = 11 14 37
            """);
    }

    private void latePlans() {
        cases.of("Promise 34", "THE PLAN of all JOBS: how much they are LATE together", """
            job 5 5 10 = 0
            plan = 0
            planned 0 1 = 10
            job 5 5 10 = 1
            plan = 5
            planned 0..1 1 = 10 15
            job 1 1 2 = 2
            plan = 7
            planned 0..2 0 = 2 0 1
            planned 0..2 1 = 2 11 16
            """);
    }

    private void counts() {
        cases.of("Promise 36", "4 impressions made, 5 SPOILT COPIES, 6 bytes of THE TAPE, 7 JOBS", Cases.sheetOf(4), """
            print 0 0 4 = 4
            print 1 5 3 = 3
            spoil 0 0 1 = 1
            spoil 0 3 2 = 2
            tape abcde
            job 1 1 1 = 0
            count 4..7 = 7 2 5 1
            law = -10
            count 4..7 = 7 2 0 1
            """);
    }
}
