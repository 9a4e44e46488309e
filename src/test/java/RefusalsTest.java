import java.io.IOException;

/** Section 6: of several refusals the first one told, call by call, and where a promise tells an order of its own. */
public final class RefusalsTest {
    private static final String FIRST = "REFUSALS, of several the first one told";

    private final Cases cases;

    private RefusalsTest(Cases cases) {
        this.cases = cases;
    }

    public static void main(String[] args) throws IOException {
        RefusalsTest test = new RefusalsTest(new Cases());
        test.tapeAndCase();
        test.page();
        test.set();
        test.misset();
        test.distributeAndAt();
        test.fault();
        test.sheet();
        test.fold();
        test.imposeAndBreakUp();
        test.paper();
        test.print();
        test.readingCalls();
        test.spoil();
        test.seenAndOrder();
        test.jobs();
        test.cases.end();
    }

    private void tapeAndCase() {
        cases.of("6, 2 feed", FIRST, """
            tape a*300
            feed 97 MIN,0,9,MAX ! BAD
            feed 97 1,8 ! FULL
            """);
        cases.of("6, 3 cast", FIRST, """
            5x cast 0 1000
            cast -1,26 0,1001 ! NONE
            cast -1,26 1,1000 ! NONE
            cast 0 0,1001 ! BAD
            cast 0 1,1000 ! FULL
            """);
    }

    private void page() {
        cases.of("6, 5 page", "BAD: THE TAPE is empty; FULL (it stays).", Cases.pages(48), """
            page ! BAD
            tape a
            page ! FULL
            """);
        // the answer of -10 less a place is for a page that there is room for: FULL leaves the tape as it is
        cases.of("6, 5 page", "FULL (it stays).", Cases.pages(48), """
            tape A
            page ! FULL
            count 6 = 1
            """);
    }

    private void set() {
        cases.of("6, 6 set", "NONE; STATE: it is SET.", """
            tape a
            page
            tape b
            page
            set 2,-1 -1,0,6 ! NONE
            set 0 -1,6 ! NONE
            set 0 0 ! -10
            cast 0 1
            set 0 0 = 1
            set 0 -1,6 ! NONE
            set 2 0 ! NONE
            set 0 0 ! STATE
            """);
    }

    private void misset() {
        String sentence = "NONE; STATE: it is not SET; BAD: it is that LETTER, or no letter stands there; FULL";
        cases.of("6, 7 misset", sentence, """
            cast 0 9
            tape a_
            page
            misset 1 0 0 ! NONE
            misset 0 2 0 ! NONE
            misset 0 0 26 ! NONE
            misset 0 0..1 0..1 ! STATE
            set 0 0
            misset 1 1 0 ! NONE
            misset 0 2 1 ! NONE
            misset 0 1 26 ! NONE
            misset 0 0 0 ! BAD
            misset 0 1 0..1 ! BAD
            misset 0 0 1 ! FULL
            """);
        cases.of("6, 7 misset", sentence, Cases.sheetOf(2), "print 0 0 1\n",
            "misset 0 0 2\nmisset 0 0 0\n".repeat(15), """
            misset 0 0 26 ! NONE
            misset 0 2 2 ! NONE
            misset 0 0 0 ! BAD
            misset 0 0 2,25 ! FULL
            """);
    }

    private void distributeAndAt() {
        cases.of("6, 8 distribute", "NONE; STATE: it is not SET, or in a FORME.", Cases.pages(1), """
            distribute -1,1 ! NONE
            distribute 0 ! STATE
            """);
        cases.of("6, 9 at", "NONE; STATE (what 1): it is not SET.", Cases.pages(1), """
            at 1 0 1 ! NONE
            at 0 -1,2 1 ! NONE
            at 0 0 -1,2 ! NONE
            at 0 0 1 ! STATE
            """);
    }

    private void fault() {
        cases.of("6, 11 fault", "NONE: page; STATE: it is not SET; NONE: no such i.", "cast 0..2 9", Cases.pages(1), """
            faults -1,1 ! NONE
            faults 0 ! STATE
            fault -1,1 0 ! NONE
            fault 0 -1,0,1 ! STATE
            set 0 0
            fault 0 -1,0 ! NONE
            """);
    }

    private void sheet() {
        cases.of("6, 12 sheet", "(All in this order: BAD, NONE, STATE, FULL.)", Cases.pages(30), """
            sheet 1 0,4,8,12,16 1
            sheet 0,4 27,0,20 1 ! BAD
            sheet 1 27,0,20 0,61 ! BAD
            sheet 1 27 1 ! NONE
            sheet 3 19 1 ! NONE
            sheet 1 0 1 ! STATE
            sheet 1 20 1 = 5
            sheet 0 27,0,24 1 ! BAD
            sheet 1 27,0,24 0 ! BAD
            sheet 1 -1,27 1 ! NONE
            sheet 3 16 1 ! NONE
            sheet 1 0,21,23 1 ! STATE
            sheet 1 24,26 1 ! FULL
            """);
    }

    private void fold() {
        cases.of("6, 13 fold", "BAD: format (ahead of NONE); NONE.", """
            fold 0,4 2 0 0 0 ! BAD
            fold 0,4 0 1 0 0 ! BAD
            fold 0,4 0 0 2 0 ! BAD
            fold 0,4 0 0 0 2 ! BAD
            fold 1 2 0 0 0 ! NONE
            """);
    }

    private void imposeAndBreakUp() {
        cases.of("6, 14 impose", "NONE; STATE: it is IMPOSED, was PRINTED", Cases.setPages(4), """
            sheet 1 0 1
            distribute 1
            impose 1 4 ! NONE
            impose 1 0 ! STATE
            impose 0 0 = 2
            impose 0 -1,4 ! NONE
            impose 2 0 ! NONE
            impose 0 0,1 ! STATE
            """);
        cases.of("6, 15 breakUp", "NONE; STATE: it is not IMPOSED", Cases.setPages(4), """
            sheet 1 0 1
            breakUp 2,-1 ! NONE
            breakUp 0 ! STATE
            """);
    }

    private void paper() {
        cases.of("6, 16 paper", "BAD; FULL: more than 10000.", """
            166x paper 60
            paper 40
            paper MIN,0,61,MAX ! BAD
            paper 1 ! FULL
            """);
    }

    private void print() {
        cases.of("6, 17 print", "NONE; BAD: n not 1 .. 60; STATE: it is not IMPOSED", Cases.setPages(4), """
            sheet 1 0 1
            print -1,2 0 0,61 ! NONE
            print 0 -1,6 0,61 ! NONE
            print 0 6 1 ! NONE
            print 0 0 0,61 ! BAD
            print 0 0 1 ! STATE
            impose 0 0
            print 0 6 1 ! NONE
            print 0 0 0,61 ! BAD
            print 0 0 1 ! STATE
            paper 1
            print 0 0 1 = 1
            print 0 6 1 ! NONE
            print 0 0 0,61 ! BAD
            print 0 0 1 ! STATE
            """);
    }

    private void readingCalls() {
        cases.of("6, 18 forme", "-5: none such.", Cases.sheetOf(1), """
            forme 2 6 ! NOSUCH
            forme 2 1 ! NOSUCH
            forme 0 6 ! NOSUCH
            """);
        cases.of("6, 29 rivals", "STATE: there was none", """
            ordered 0 ! NONE
            rivals ! STATE
            """);
        cases.of("6, 32 did", "NONE there is no such LETTER, PAGE, place, HAND", """
            did 6 4 ! NONE
            did 6 0 ! NONE
            did 0 4 ! NONE
            """);
    }

    private void spoil() {
        cases.of("6, 21 spoil", "NONE; STATE: it is SPOILT, or nothing is printed on it.", Cases.sheetOf(2), """
            spoil 1 0 0 ! NONE
            spoil 0 2 0 ! NONE
            spoil 0 0 6 ! NONE
            spoil 0 0 0 ! STATE
            print 0 0 1 = 1
            spoil 0 0 0 = 1
            spoil 0 0 -1,6 ! NONE
            spoil 1 0 0 ! NONE
            spoil 0 0..1 0 ! STATE
            """);
    }

    private void seenAndOrder() {
        cases.of("6, 26 seen", "-5: there is no such letter, FORME 0 .. 11; BAD.", """
            seen -1,6 0 -2,10 ! NOSUCH
            seen 0 -1,12 -2,10 ! NOSUCH
            seen 0 0 -2,10 ! BAD
            """);
        cases.of("6, 27 order", "They change nothing.", """
            order 6 = 0
            order 0,255,4096 ! BAD
            ordered 0..1 = 1 2
            rivals = 2
            """);
    }

    private void jobs() {
        cases.of("6, 33 job", "A JOB more: its number. BAD; FULL.", """
            7x job 1 1 1
            job -1,51 1 1 ! BAD
            job 1 -1,51 1 ! BAD
            job 1 1 -1,501 ! BAD
            job 1 1 1 ! FULL
            """);
        cases.of("6, 35 planned", "SHEET, side, FORME, SKELETON, COPY, BOOK, JOB, what, i", """
            job 1 1 1
            plan = 1
            planned 1 2 ! NONE
            planned 0 2 ! NONE
            planned 1 0 ! NONE
            """);
    }
}
