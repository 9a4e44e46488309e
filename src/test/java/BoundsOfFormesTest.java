import java.io.IOException;

/** Bounds of sections 2 and 3 and of promises 12 to 21: sheets, folding, formes, paper, impressions, spoilt copies. */
public final class BoundsOfFormesTest {
    private final Cases cases;

    private BoundsOfFormesTest(Cases cases) {
        this.cases = cases;
    }

    public static void main(String[] args) throws IOException {
        BoundsOfFormesTest test = new BoundsOfFormesTest(new Cases());
        test.formatsAndCopies();
        test.pagesOfSheets();
        test.pagesOfOtherSheets();
        test.sheetTotal();
        test.sheetNumbers();
        test.fold();
        test.turned();
        test.formesAndSkeletons();
        test.impose();
        test.pagesOfFormes();
        test.breakUp();
        test.paper();
        test.printArguments();
        test.printStates();
        test.paperEnds();
        test.otherSide();
        test.forme();
        test.stateNumbers();
        test.statesOfImpressions();
        test.corrections();
        test.readArguments();
        test.readAsPrinted();
        test.spoil();
        test.cases.end();
    }

    private void formatsAndCopies() {
        cases.of("Terms 2", "each of a FORMAT f (1, 2, 3)", Cases.pages(28), """
            sheet MIN,-1,0,4,MAX 0 1 ! BAD
            sheet 1 0 1 = 0
            sheet 2 4 1 = 1
            sheet 3 12 1 = 2
            sheet 0,4 12 1 ! BAD
            count 2 = 3
            """);
        cases.of("Terms 2", "so many COPIES (1 .. 60; numbered from 0 on", Cases.setPages(8), """
            sheet 1 0 MIN,-1,0,61,MAX ! BAD
            sheet 1 0 1 = 0
            sheet 1 4 60 = 1
            sheet 1 4 61 ! BAD
            paper 60
            paper 1
            impose 0 0
            impose 2 1
            print 0 0 60 = 1
            print 2 0 60 = 60
            state 0 MIN,-1,1,MAX 0 ! NONE
            state 0 0 0 = 0
            state 1 MIN,-1,60,MAX 0 ! NONE
            state 1 0,59 0 = 0
            """);
    }

    private void pagesOfSheets() {
        String sentence = "NONE: not all PAGES are there";
        cases.of("12 sheet", sentence, Cases.pages(3), """
            sheet 1 0 1 ! NONE
            tape a
            page
            sheet 1 MIN,-4,-1,1,4,MAX 1 ! NONE
            sheet 2,3 0 1 ! NONE
            sheet 1 0 1 = 0
            """);
        cases.of("12 sheet", sentence, Cases.pages(7), """
            sheet 2 0 1 ! NONE
            tape a
            page
            sheet 2 MIN,-8,-1,1,8,MAX 1 ! NONE
            sheet 3 0 1 ! NONE
            sheet 2 0 1 = 0
            """);
        cases.of("12 sheet", sentence, Cases.pages(15), """
            sheet 3 0 1 ! NONE
            tape a
            page
            sheet 3 MIN,-16,-1,1,16,MAX 1 ! NONE
            sheet 3 0 1 = 0
            """);
        cases.of("12 sheet", sentence, Cases.pages(48), """
            sheet 1 45,47,48 1 ! NONE
            sheet 2 41 1 ! NONE
            sheet 3 33 1 ! NONE
            sheet 3 32 1 = 0
            sheet 2 24 1 = 1
            sheet 1 20 1 = 2
            """);
    }

    private void pagesOfOtherSheets() {
        cases.of("12 sheet", "STATE: a PAGE is in another SHEET", Cases.pages(24), """
            sheet 2 8 1 = 0
            sheet 1 5..15 1 ! STATE
            sheet 2 1,15 1 ! STATE
            sheet 3 0,8 1 ! STATE
            sheet 1 4 1 = 1
            sheet 1 16 1 = 2
            sheet 1 1 1 ! STATE
            sheet 1 19 1 ! STATE
            sheet 1 0 1 = 3
            sheet 1 20 1 = 4
            sheet 1 0 1 ! STATE
            """);
    }

    private void sheetTotal() {
        cases.of("Terms 2", "SHEETS are numbered from 0 on, 6 at most", Cases.pages(48), """
            sheet 1 0 1 = 0
            sheet 1 4 1 = 1
            sheet 1 8 1 = 2
            sheet 1 12 1 = 3
            sheet 1 16 1 = 4
            sheet 1 20 1 = 5
            sheet 1 24,44 1 ! FULL
            sheet 2,3 24 1 ! FULL
            count 2 = 6
            """);
        cases.of("Terms 2", "6 at most", "cast 0 48\n", "tape a\npage\n".repeat(48), "set 0..47 0\n", """
            sheet 2 0 1
            sheet 2 8 1
            sheet 2 16 1
            sheet 2 24 1
            sheet 2 32 1
            sheet 2 40 1 = 5
            forme 10,11 2 = 0
            forme 12 2 ! NOSUCH
            impose 12,13 0 ! NONE
            impose 11 0 = 4
            paper 1
            print 12 0 1 ! NONE
            print 11 0 1 = 1
            state 6 0 1 ! NONE
            state 5 0 1 = 0
            breakUp 12 ! NONE
            breakUp 11 = 0
            spoil 6 0 0 ! NONE
            spoil 5 0 0 = 1
            """);
    }

    private void sheetNumbers() {
        cases.of("Terms 2", "SHEETS are numbered from 0 on", Cases.sheetOf(2), """
            print 0 0 2 = 2
            print 1 0 2 = 2
            state MIN,-1,1,6,MAX 0 0 ! NONE
            state 0 0 0 = 0
            read MIN,-1,1,6,MAX 0 0 0 ! NONE
            read 0 0 0 0 = 0
            inBook 0 MIN,-1,1,6,MAX ! NONE
            inBook 0 0 = 0
            spoil MIN,-1,1,6,MAX 0 0 ! NONE
            spoil 0 0 0 = 1
            """);
    }

    private void fold() {
        cases.of("13 fold", "BAD: format (ahead of NONE)", """
            fold MIN,-1,0,4,MAX 0 0 0 0 ! BAD
            fold MIN,-1,0,4,MAX -1 0 0 0 ! BAD
            fold 0,4 0 0 0 2 ! BAD
            fold 1..3 0 0 0 0 = 3 7 15
            """);
        cases.of("Terms 2", "FORMAT 1: 2 columns, 1 row; 2: 2 and 2; 3: 4 and 2", """
            fold 1 MIN,-1,2,MAX 0 0 0 ! NONE
            fold 1 0 MIN,-1,1,MAX 0 0 ! NONE
            fold 1 0..1 0 0..1 0 = 3 2 0 1
            fold 2 MIN,-1,2,MAX 0 0 0 ! NONE
            fold 2 0 MIN,-1,2,MAX 0 0 ! NONE
            fold 2 0..1 0 0..1 0 = 7 6 0 1
            fold 2 0..1 1 0..1 0 = 4 5 3 2
            fold 3 MIN,-1,4,MAX 0 0 0 ! NONE
            fold 3 0 MIN,-1,2,MAX 0 0 ! NONE
            fold 3 0..3 0 0..1 0 = 15 14 0 1 3 2 12 13
            fold 3 0..3 1 0..1 0 = 8 9 7 6 4 5 11 10
            """);
        cases.of("Terms 2", "It lies with its OUTER side (0) below and its INNER side (1) above", """
            fold 1 0 0 MIN,-1,2,MAX 0..1 ! NONE
            fold 2 0 0 MIN,-1,2,MAX 0..1 ! NONE
            fold 3 0 0 MIN,-1,2,MAX 0..1 ! NONE
            fold 1 0 0 0..1 0 = 3 2
            """);
    }

    private void turned() {
        cases.of("13 fold", "what 1: whether it is TURNED (1, 0)", """
            fold 1 0..1 0 0..1 1 = 0
            fold 2 0..1 0 0..1 1 = 0
            fold 2 0..1 1 0..1 1 = 1
            fold 3 0..3 0 0..1 1 = 0
            fold 3 0..3 1 0..1 1 = 1
            fold 1..3 0 0 0 MIN,-1,2,MAX ! NONE
            """);
        cases.of("Terms 2", "if there are as many columns as rows, or fewer", """
            fold 2 0 1 0..1 0 = 4 5
            fold 2 1 0 0..1 0 = 0 1
            """);
    }

    private void formesAndSkeletons() {
        cases.of("Terms 2", "A FORME is a side of a SHEET (told as 2 SHEET and side).", Cases.sheetOf(1), """
            impose MIN,-1,2,12,MAX 2 ! NONE
            print MIN,-1,2,12,MAX 0 1 ! NONE
            print 0 0 1 = 1
            print 1 0 1 = 1
            forme MIN,-1,2,12,MAX 0..5 ! NOSUCH
            forme 0..1 2 = 1
            breakUp MIN,-1,2,12,MAX ! NONE
            breakUp 0..1 = 0 1
            """);
        cases.of("Terms 2", "in a SKELETON 0 .. 3 that is in no FORME", Cases.setPages(12), """
            sheet 1 0 1
            sheet 1 4 1
            sheet 1 8 1
            impose 0 MIN,-1,4,MAX ! NONE
            impose 0 0 = 2
            impose 1 0 ! STATE
            impose 1 3 = 2
            impose 2 0,3 ! STATE
            impose 2 1 = 2
            impose 3 2 = 2
            impose 4 0..3 ! STATE
            impose 4 4 ! NONE
            breakUp 1 = 3
            impose 4 0..2 ! STATE
            impose 4 3 = 2
            forme 0..5 1 = 0 NONE 1 2 3 NONE
            count 8 = 4
            """);
    }

    private void impose() {
        cases.of("14 impose", "STATE: it is IMPOSED", Cases.setPages(4), """
            sheet 1 0 1
            impose 0 0 = 2
            impose 0 0..3 ! STATE
            breakUp 0 = 0
            impose 0 1 = 2
            forme 0 1 = 1
            """);
        cases.of("14 impose", "was PRINTED", Cases.sheetOf(2), """
            print 0 0 1 = 1
            impose 0 0,2 ! STATE
            print 0 0 1 = 1
            impose 0 0,2 ! STATE
            breakUp 0..1 = 0 1
            impose 0 0..3 ! STATE
            impose 1 0 = 2
            """);
        cases.of("14 impose", "was PRINTED", Cases.sheetOf(1), """
            print 0 0 1 = 1
            breakUp 0 = 0
            impose 0 0 ! STATE
            """);
        cases.of("14 impose", "TO IMPOSE: how many PAGES.", Cases.setPages(28), """
            sheet 1 0 1
            sheet 2 4 1
            sheet 3 12 1
            impose 1 0 = 2
            impose 2 1 = 4
            impose 5 2 = 8
            """);
    }

    private void pagesOfFormes() {
        String sentence = "or a PAGE is not SET, or in one";
        cases.of("14 impose", sentence, "cast 0..1 99", Cases.pages(4), """
            sheet 1 0 1
            impose 0,1 0 ! STATE
            set 0 0
            impose 0 0 ! STATE
            set 1 0
            impose 0,1 0 ! STATE
            set 3 0
            impose 1 0 ! STATE
            impose 0 0 = 2
            set 2 0
            impose 1 1 = 2
            """);
        StringBuilder rows = new StringBuilder("sheet 3 0 1\n");
        int[] outer = {0, 3, 4, 7, 8, 11, 12, 15};
        for (int page : outer) {
            rows.append("distribute ").append(page).append("\nimpose 0 0 ! STATE\n");
            rows.append("impose 1 1 = 8\nbreakUp 1\nset ").append(page).append(" 0\n");
        }
        cases.of("14 impose", sentence, Cases.setPages(16), rows.toString(), "impose 0 0 = 8\n");
    }

    private void breakUp() {
        String sentence = "STATE: it is not IMPOSED, or some impressions are made and not all";
        cases.of("15 breakUp", sentence, Cases.setPages(4), """
            sheet 1 0 3
            paper 9
            breakUp 0,1 ! STATE
            impose 0 2
            breakUp 1 ! STATE
            breakUp 0 = 2
            breakUp 0 ! STATE
            impose 0 3
            print 0 0 1 = 1
            breakUp 0 ! STATE
            print 0 0 1 = 1
            breakUp 0 ! STATE
            print 0 0 1 = 1
            breakUp 0 = 3
            breakUp 0 ! STATE
            """);
        cases.of("Terms 3", "A FORME is BROKEN UP only when it has no impression or all.", Cases.sheetOf(1), """
            print 0 0 1 = 1
            print 1 0 1 = 1
            breakUp 0..1 = 0 1
            """);
        cases.of("Terms 3", "A FORME is BROKEN UP only when it has no impression or all.", Cases.sheetOf(60), """
            print 0 0 59 = 59
            breakUp 0 ! STATE
            breakUp 1 = 1
            print 0 0 1 = 1
            breakUp 0 = 0
            """);
        cases.of("Terms 2", "its PAGES and its SKELETON are in no FORME then", Cases.setPages(4), """
            sheet 1 0 1
            impose 0 0
            impose 1 0 ! STATE
            distribute 0 ! STATE
            breakUp 0 = 0
            distribute 0 = 2
            impose 1 0 = 2
            """);
    }

    private void paper() {
        cases.of("16 paper", "n (1 .. 60) blank sheets more", """
            paper MIN,-60,-1,0 ! BAD
            paper 1 = 1
            paper 60 = 61
            paper 61,62,MAX ! BAD
            count 3 = 61
            """);
        cases.of("16 paper", "FULL: more than 10000", """
            166x paper 60
            paper 41,60 ! FULL
            paper 39 = 9999
            paper 2 ! FULL
            paper 1 = 10000
            paper 1,60 ! FULL
            count 3 = 10000
            """);
        cases.of("Terms 3", "PAPER: so many blank sheets (0 .. 10000).", Cases.setPages(4), """
            sheet 1 0 1
            impose 0 0
            166x paper 60
            paper 40 = 10000
            print 0 0 1 = 1
            count 3 = 9999
            paper 2 ! FULL
            paper 1 = 10000
            """);
    }

    private void printArguments() {
        cases.of("17 print", "BAD: n not 1 .. 60", Cases.sheetOf(60), """
            print 0 0 MIN,-1,0,61,MAX ! BAD
            print 0 0 1 = 1
            print 0 0 61 ! BAD
            print 0 0 60 = 59
            print 1 0 60 = 60
            """);
        cases.of("17 print", "are made by a HAND", Cases.sheetOf(3), """
            print 0 MIN,-1,6,MAX 1 ! NONE
            print 0 0 1 = 1
            print 0 5 1 = 1
            did 0..5 1 = 1 0 0 0 0 1
            """);
        cases.of("17 print", "n impressions, or as many as are left", Cases.sheetOf(4), """
            print 0 0 2 = 2
            print 0 0 2 = 2
            print 1 0 3 = 3
            print 1 0 2 = 1
            count 4 = 8
            """);
        cases.of("17 print", "or as many as are left", Cases.sheetOf(4), """
            print 0 0 5 = 4
            print 1 0 4 = 4
            forme 0..1 2 = 4
            count 3 = 116
            """);
    }

    private void printStates() {
        cases.of("17 print", "STATE: it is not IMPOSED", Cases.setPages(4), """
            sheet 1 0 1
            paper 9
            print 0,1 0 1 ! STATE
            impose 0 0
            print 1 0 1 ! STATE
            breakUp 0
            print 0 0 1 ! STATE
            impose 0 0
            print 0 0 1 = 1
            breakUp 0
            print 0 0 1 ! STATE
            print 1 0 1 ! STATE
            """);
        cases.of("17 print", "has all", Cases.sheetOf(2), """
            print 0 0 1 = 1
            print 0 0 1 = 1
            print 0 0 1,60 ! STATE
            print 1 0 1 = 1
            print 1 0 1 = 1
            print 1 0 1,60 ! STATE
            count 3 = 118
            """);
        cases.of("17 print", "it is the other side and the first one has not all", Cases.sheetOf(3), """
            print 1 0 1 = 1
            print 0 0 1 ! STATE
            print 1 0 1 = 1
            print 0 0 1 ! STATE
            print 1 0 1 = 1
            print 0 0 1 = 1
            """);
        cases.of("17 print", "it is the other side and the first one has not all", Cases.sheetOf(60), """
            print 0 0 59 = 59
            print 1 0 1,60 ! STATE
            print 0 0 1 = 1
            print 1 0 60 = 60
            """);
    }

    private void paperEnds() {
        cases.of("17 print", "or PAPER is out", Cases.setPages(4), """
            sheet 1 0 3
            impose 0 0
            print 0 0 1 ! STATE
            forme 0 5 = 0
            paper 1
            print 0 0 1 = 1
            print 0 0 1 ! STATE
            paper 1
            print 0 0 1 = 1
            """);
        cases.of("17 print", "(PAPER may end it earlier.)", Cases.setPages(4), """
            sheet 1 0 9
            impose 0 0
            impose 1 1
            paper 3
            print 0 0 4 = 3
            count 3 = 0
            paper 2
            print 0 0 2 = 2
            count 3 = 0
            paper 3
            print 0 0 2 = 2
            count 3 = 1
            paper 2
            print 0 0 60 = 2
            count 3 = 1
            """);
        cases.of("Terms 3", "on COPY t, which is a blank sheet of PAPER; on the other side", Cases.setPages(4), """
            sheet 1 0 2
            impose 0 0
            impose 1 1
            paper 2
            print 1 0 2 = 2
            count 3 = 0
            print 0 0 2 = 2
            count 3 = 0
            """);
    }

    private void otherSide() {
        String turned = "on COPY (COPIES less 1 less t): the heap was turned";
        cases.of("Terms 3", turned, Cases.sheetOf(60), """
            print 0 0 1 = 1
            state 0 0,1,58,59 0 = 0 NONE NONE NONE
            print 0 0 58 = 58
            state 0 58,59 0 = 0 NONE
            print 0 0 1 = 1
            print 1 0 1 = 1
            state 0 0,1,58,59 1 = NONE NONE NONE 0
            print 1 0 58 = 58
            state 0 0,1 1 = NONE 0
            print 1 0 1 = 1
            state 0 0 1 = 0
            """);
        cases.of("Terms 3", turned, Cases.sheetOf(1), """
            print 1 0 1 = 1
            state 0 0 0..1 = NONE 0
            print 0 0 1 = 1
            state 0 0 0..1 = 0
            """);
        cases.of("Terms 3", "if it is the first side of its SHEET on which one was made", Cases.sheetOf(2), """
            forme 0..1 5 = 0
            print 1 0 1 = 1
            forme 0..1 5 = 0 1
            print 1 0 1 = 1
            print 0 0 1 = 1
            forme 0..1 5 = 0 1
            state 0 0..1 0 = NONE 0
            """);
    }

    private void forme() {
        cases.of("18 forme", "-5: none such.", Cases.sheetOf(1), """
            forme 0 MIN,-1,6,MAX ! NOSUCH
            forme MIN,-1,2,MAX 0 ! NOSUCH
            forme 0 0..5 = 1 0 0 0 0 0
            forme 1 0..5 = 1 1 0 0 0 0
            """);
        cases.of("18 forme", "what 0 whether it is IMPOSED (1, 0)", Cases.setPages(4), """
            sheet 1 0 1
            forme 0..1 0 = 0
            impose 1 0
            forme 0..1 0 = 0 1
            breakUp 1
            forme 0..1 0 = 0
            """);
        cases.of("18 forme", "5 whether it is the first side printed (1, 0)", Cases.setPages(8), """
            sheet 1 0 1
            sheet 1 4 1
            paper 2
            impose 0 0
            impose 1 1
            impose 2 2
            impose 3 3
            forme 0..3 5 = 0
            print 1 0 1
            forme 0..3 5 = 0 1 0 0
            print 2 0 1
            forme 0..3 5 = 0 1 1 0
            print 0 0 1
            print 3 0 1
            forme 0..3 5 = 0 1 1 0
            """);
        cases.of("18 forme", "1 its SKELETON (NONE)", Cases.setPages(4), """
            sheet 1 0 1
            forme 0 1 = NONE
            impose 0 3
            forme 0 1 = 3
            breakUp 0
            forme 0 1 = NONE
            """);
        cases.of("18 forme", "3 MISSETTINGS since the first one, 4 how many STATES", Cases.sheetOf(3), """
            misset 0 0 2
            forme 0 2..4 = 0 0 0
            print 0 0 1
            forme 0 2..4 = 1 0 1
            misset 0 0 3
            forme 0 2..4 = 1 1 1
            misset 0 0 2
            print 0 0 1
            forme 0 2..4 = 2 2 2
            print 0 0 1
            forme 0 2..4 = 3 2 2
            misset 0 0 3
            forme 0 2..4 = 3 3 2
            breakUp 0
            misset 0 0 2
            forme 0 2..4 = 3 3 2
            """);
        StringBuilder rows = new StringBuilder("print 0 0 1 = 1\n");
        for (int k = 0; k < 30; k++) {
            rows.append("misset 0 0 ").append(k % 2 == 0 ? 2 : 0).append("\nprint 0 0 1 = 1\n");
        }
        cases.of("18 forme", "4 how many STATES impressions have", Cases.sheetOf(60), rows.toString(), """
            forme 0 2..4 = 31 30 31
            print 0 0 60 = 29
            forme 0 2..4 = 60 30 31
            """);
    }

    private void stateNumbers() {
        cases.of("19 state", "NONE: none such, not printed.", Cases.sheetOf(2), """
            state 0 0..1 0..1 ! NONE
            print 0 0 1 = 1
            state 0 MIN,-1,2,60,MAX 0 ! NONE
            state 0 0 MIN,-1,2,MAX ! NONE
            state 0 0..1 0 = 0 NONE
            state 0 0..1 1 ! NONE
            """);
    }

    private void statesOfImpressions() {
        String sentence = "how many MISSETTINGS were made in that FORME ahead of it, since its first impression";
        cases.of("Terms 3", sentence, Cases.sheetOf(3), """
            misset 0 0 2
            print 0 0 1
            misset 1 0 2
            print 0 0 1
            misset 3 0 2
            misset 0 0 0
            print 0 0 1
            state 0 0..2 0 = 0 0 2
            misset 2 0 2
            print 1 0 1
            misset 2 0 0
            print 1 0 2
            state 0 0..2 1 = 1 1 0
            """);
    }

    private void corrections() {
        String sentence = "while a FORME is IMPOSED a place of a PAGE of it may be MISSET, too (back to the COPY also)";
        cases.of("Terms 3", sentence, Cases.sheetOf(2), """
            misset 0 0 2 = 0
            print 0 0 1 = 1
            faults 0 = 1
            misset 0 0 0 = 2
            faults 0 = 0
            print 0 0 1 = 1
            forme 0 3..4 = 1 2
            state 0 0..1 0 = 0 1
            read 0 0..1 0 0 = 2 0
            """);
    }

    private void readArguments() {
        String sheets = Cases.setPages(9) + "sheet 1 4 2\npaper 9\nimpose 0 0\nimpose 1 1\n";
        cases.of("20 read", "NONE: none such, it is not of that SHEET, not printed there.", sheets, """
            read 0 0 4..7 0 ! NONE
            print 0 0 1 = 1
            read 0 0 4,7 0..1 = 0 1 0 1
            read 0 0 5,6 0 ! NONE
            read 0 1 4..7 0 ! NONE
            print 0 0 1 = 1
            print 1 0 1 = 1
            read 0 0 5,6 0 ! NONE
            read 0 1 4..7 0 = 0
            read 0 MIN,-1,2,MAX 4 0 ! NONE
            read 0 1 MIN,-1,3,8,9,48,MAX 0 ! NONE
            read 0 1 4 MIN,-1,2,MAX ! NONE
            """);
        cases.of("20 read", "it is not of that SHEET", Cases.setPages(8), """
            sheet 1 4 1
            sheet 1 0 1
            impose 0 0
            impose 2 1
            paper 2
            print 0 0 1
            print 2 0 1
            read 0 0 3 0 ! NONE
            read 0 0 4,7 0 = 0
            read 1 0 0,3 0 = 0
            read 1 0 4 0 ! NONE
            """);
    }

    private void readAsPrinted() {
        cases.of("Terms 3", "Each impression shows what is SET then.", Cases.sheetOf(3), """
            misset 0 0 2
            print 0 0 1
            misset 0 0 3
            misset 0 0 4
            print 0 0 1
            misset 0 0 0
            print 0 0 1
            misset 0 0 1
            read 0 0..2 0 0 = 2 4 0
            breakUp 0
            distribute 0
            read 0 0..2 0 0 = 2 4 0
            set 0 0
            misset 0 0 3
            read 0 0..2 0 0..1 = 2 1 4 1 0 1
            """);
        cases.of("Terms 3", "Each impression shows what is SET then.", Cases.sheetOf(2), """
            print 0 0 1
            misset 3 1 4
            print 0 0 1
            read 0 0 0,3 0..1 = 0 1 0 1
            read 0 1 0,3 0..1 = 0 1 0 4
            print 1 0 1
            misset 1 0 3
            misset 2 1 3
            print 1 0 1
            read 0 0 1,2 0..1 = 3 1 0 3
            read 0 1 1,2 0..1 = 0 1 0 1
            """);
        cases.of("20 read", "What stands in a COPY at a place of a PAGE (as at()).", """
            cast 0,25 4
            tape az_|
            page = 0
            tape az_|
            page = 1
            tape az_|
            page = 2
            tape a
            page = 3
            set 0..3 0 = 2 2 2 1
            sheet 1 0 1
            paper 1
            impose 0 0
            print 0 0 1
            read 0 0 0 0..3 = 0 25 32 33
            read 0 0 0 4 ! NONE
            read 0 0 3 0 = 0
            read 0 0 3 1 ! NONE
            """);
    }

    private void spoil() {
        cases.of("21 spoil", "STATE: it is SPOILT, or nothing is printed on it", Cases.sheetOf(3), """
            spoil 0 0..2 0 ! STATE
            print 0 0 2 = 2
            spoil 0 2 0 ! STATE
            spoil 0 1 0 = 1
            spoil 0 1 0..1 ! STATE
            spoil 0 0 0 = 2
            print 0 0 1 = 1
            spoil 0 2 0 = 3
            spoil 0 0..2 0 ! STATE
            count 5 = 3
            """);
        cases.of("21 spoil", "as a HAND's", Cases.sheetOf(3), """
            print 0 0 3
            spoil 0 0 MIN,-1,6,MAX ! NONE
            spoil 0 0 0 = 1
            spoil 0 1 5 = 2
            did 0..5 2 = 1 0 0 0 0 1
            """);
        cases.of("21 spoil", "how many of the SHEET are", Cases.setPages(8), """
            sheet 1 0 60
            sheet 1 4 1
            2x paper 60
            impose 0 0
            impose 2 1
            print 0 0 60
            print 2 0 1
            spoil 0 MIN,-1,60,MAX 0 ! NONE
            spoil 1 MIN,-1,1,MAX 0 ! NONE
            spoil 0 59 0 = 1
            spoil 0 0 0 = 2
            spoil 1 0 0 = 1
            count 5 = 3
            """);
    }
}
