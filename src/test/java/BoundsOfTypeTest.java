import java.io.IOException;

/** Bounds of section 1 and of promises 1 to 11: the tape, the case, pages, what is set. */
public final class BoundsOfTypeTest {
    private final Cases cases;

    private BoundsOfTypeTest(Cases cases) {
        this.cases = cases;
    }

    public static void main(String[] args) throws IOException {
        BoundsOfTypeTest test = new BoundsOfTypeTest(new Cases());
        test.newObject();
        test.tape();
        test.feed();
        test.letters();
        test.sorts();
        test.copies();
        test.bytesOfCopies();
        test.pageTotal();
        test.pageNumbers();
        test.places();
        test.set();
        test.misset();
        test.missettingsOfAForme();
        test.distribute();
        test.at();
        test.faults();
        test.calls();
        test.cases.end();
    }

    private void newObject() {
        cases.of("1", "An empty CASE, no PAPER, nothing else.", """
            sorts 0..25 = 0
            count 0..9 = 0
            did 0..5 0..3 = 0
            wages 0..5 = 0
            seen 0..5 0..11 -1 = NONE
            books = 0
            kinds = 0
            plan = 0
            """);
        cases.of("1", "nothing else", """
            page ! BAD
            set 0 0 ! NONE
            misset 0 0 0 ! NONE
            distribute 0 ! NONE
            at 0 0 0 ! NONE
            faults 0 ! NONE
            fault 0 0 ! NONE
            sheet 1 0 1 ! NONE
            impose 0 0 ! NONE
            breakUp 0 ! NONE
            print 0 0 1 ! NONE
            forme 0 0..5 ! NOSUCH
            state 0 0 0 ! NONE
            read 0 0 0 0 ! NONE
            spoil 0 0 0 ! NONE
            inBook 0 0 ! NONE
            unlike 0 0 ! NONE
            ordered 0 ! NONE
            rivals ! STATE
            planned 0 0..1 ! NONE
            """);
    }

    private void tape() {
        String sentence = "THE TAPE has at most 300 bytes.";
        cases.of("Terms 1", sentence, """
            tape a*299
            feed 97 2 ! FULL
            feed 97 8 ! FULL
            count 6 = 299
            feed 97 1 = 300
            feed 97 1 ! FULL
            feed 97 8 ! FULL
            count 6 = 300
            """);
        cases.of("Terms 1", sentence, """
            tape a*292
            feed 97 8 = 300
            page = -130
            feed 97 8 = 8
            """);
        cases.of("Terms 1", sentence, """
            tape a*293
            feed 97 8 ! FULL
            feed 97 7 = 300
            law = -10
            feed 97 1 = 1
            """);
    }

    private void feed() {
        cases.of("2 feed", "BAD: n not 1 .. 8", """
            feed 97 MIN,-1,0 ! BAD
            feed 97 1 = 1
            feed 97 8 = 9
            feed 97 9,10,256,257,MAX ! BAD
            count 6 = 9
            """);
        cases.of("2 feed", "The n lowest bytes of w, the highest first, come behind THE TAPE's", """
            feed 0x6162636465666768 1 = 1
            feed 0x6162636465666768 2 = 3
            feed 0x6162636465666768 7 = 10
            feed 0x6162636465666768 8 = 18
            page = 0
            at 0 0..17 0 = 7 6 7 1 2 3 4 5 6 7 0 1 2 3 4 5 6 7
            """);
        cases.of("2 feed", "The n lowest bytes of w", """
            feed 0xffffffffffffff61 1 = 1
            feed 0x8000000000000061 1 = 2
            page = 0
            at 0 0..1 0 = 0
            feed 0x6161616161616180 8 = 8
            page = -17
            feed 0x8061616161616161 8 = 8
            page = -10
            feed 0x7fffffffffffffff 8 = 8
            page = -10
            feed -1 8 = 8
            page = -10
            feed 0 8 = 8
            page = -10
            """);
    }

    private void letters() {
        String sentence = "LETTERS are a .. z (0 .. 25).";
        cases.of("Terms 1", sentence, """
            cast MIN,-1,26,MAX 1 ! NONE
            cast 0,25 1 = 1
            sorts MIN,-1,26,32,33,MAX ! NONE
            sorts 0..25 = 1 0 0 0 0 0 0 0 0 0 0 0 0 0 0 0 0 0 0 0 0 0 0 0 0 1
            """);
        cases.of("Terms 1", sentence, """
            cast 0,25 2
            tape ab
            cast 1 1
            page
            set 0 0
            misset 0 0 MIN,-1,26,32,33,MAX ! NONE
            misset 0 0 25 = 0
            misset 0 0 0 = 25
            """);
    }

    private void sorts() {
        cases.of("3 cast", "n (1 .. 1000) SORTS of a LETTER", """
            cast 7 MIN,-1000,-1,0 ! BAD
            sorts 7 = 0
            cast 7 1 = 1
            cast 7 1000 = 1001
            cast 7 1001,1002,MAX ! BAD
            sorts 7 = 1001
            """);
        cases.of("3 cast", "FULL: more than 5000", """
            4x cast 3 1000
            cast 3 999 = 4999
            cast 3 2 ! FULL
            cast 3 1000 ! FULL
            cast 3 1 = 5000
            cast 3 1 ! FULL
            cast 3 1000 ! FULL
            sorts 3 = 5000
            """);
        cases.of("3 cast", "FULL: more than 5000", """
            4x cast 3 1000
            cast 3 1 = 4001
            cast 3 1000 ! FULL
            cast 3 999 = 5000
            sorts 2 = 0
            cast 2 1000 = 1000
            """);
        cases.of("Terms 1", "THE CASE has so many SORTS of each (0 .. 5000).", """
            5x cast 0 1000
            tape aaa
            page
            set 0 0 = 3
            cast 0 4 ! FULL
            cast 0 3 = 5000
            """);
    }

    private void copies() {
        cases.of("5 page", "BAD: THE TAPE is empty", """
            page ! BAD
            tape a
            page = 0
            page ! BAD
            tape A
            page = -10
            page ! BAD
            tape set=1
            law = 1
            page ! BAD
            count 0 = 1
            """);
        cases.of("Terms 1", "each has a COPY, 1 .. 120 bytes", """
            tape a
            page = 0
            tape a*119
            page = 1
            at 1 118 0 = 0
            at 1 119 0 ! NONE
            tape a*120
            page = 2
            at 2 119 0 = 0
            at 2 120 0 ! NONE
            tape a*121
            page = -130
            count 6 = 0
            tape a*300
            page = -130
            count 6 = 0
            count 0 = 3
            tape b
            page = 3
            """);
        cases.of("5 page", "-10 less the place of the first byte that is none such, or of byte 120", """
            tape A
            page = -10
            tape aA
            page = -11
            tape AA
            page = -10
            tape a*118 AA
            page = -128
            tape a*119 A
            page = -129
            tape a*119 AA
            page = -129
            tape a*120 A
            page = -130
            tape a*121 A
            page = -130
            count 6 = 0
            count 0 = 0
            """);
        cases.of("5 page", "THE TAPE, which is empty then, is the COPY of a PAGE more: its number", """
            tape a
            page = 0
            count 6 = 0
            tape b!
            page = -11
            count 6 = 0
            tape c
            count 6 = 1
            page = 1
            at 1 0 0 = 2
            """);
    }

    private void bytesOfCopies() {
        String sentence = "bytes that are letters, blanks (32) or line ends (10)";
        StringBuilder refused = new StringBuilder();
        StringBuilder taken = new StringBuilder();
        int pages = 0;
        for (int value = 0; value < 256; value++) {
            if (value >= 'a' && value <= 'z' || value == ' ' || value == '\n') {
                int code = value == ' ' ? 32 : value == '\n' ? 33 : value - 'a';
                taken.append("feed ").append(value).append(" 1 = 1\npage = ").append(pages);
                taken.append("\nat ").append(pages).append(" 0 0 = ").append(code).append('\n');
                pages++;
            } else {
                refused.append("feed ").append(value).append(" 1 = 1\npage = -10\n");
            }
        }
        cases.of("Terms 1", sentence, refused.toString(), "count 0 = 0");
        cases.of("Terms 1", sentence, taken.toString(), "count 0 = 28");
    }

    private void pageTotal() {
        cases.of("Terms 1", "PAGES are numbered from 0 on, 48 at most", Cases.pages(46), """
            tape a
            page = 46
            tape b
            page = 47
            tape c
            page ! FULL
            count 0 = 48
            """);
        cases.of("5 page", "FULL (it stays).", Cases.pages(48), """
            tape set=7
            page ! FULL
            count 6 = 5
            feed 47 1 = 6
            feed 50 1 = 7
            page ! FULL
            law = 1
            cast 0..1 9
            set 0 0 = 2
            wages 0 = 7
            """);
        cases.of("5 page", "FULL (it stays).", Cases.pages(48), """
            tape a*121
            page ! FULL
            count 6 = 121
            """);
    }

    private void pageNumbers() {
        String numbered = "PAGES are numbered from 0 on";
        cases.of("Terms 1", numbered, "cast 0..2 9", Cases.pages(2), """
            set MIN,-1,2,48,MAX 0 ! NONE
            set 0..1 0 = 2
            misset MIN,-1,2,48,MAX 0 2 ! NONE
            misset 0..1 0 2 = 0
            at MIN,-1,2,48,MAX 0 0 ! NONE
            at MIN,-1,2,48,MAX 0 1 ! NONE
            at 0..1 0 1 = 2
            faults MIN,-1,2,48,MAX ! NONE
            faults 0..1 = 1
            fault MIN,-1,2,48,MAX 0 ! NONE
            fault 0..1 0 = 0
            distribute MIN,-1,2,48,MAX ! NONE
            distribute 0..1 = 2
            """);
        cases.of("Terms 1", "48 at most", "cast 0..2 99", Cases.pages(48), """
            set 48 0 ! NONE
            set 47 0 = 2
            misset 48 0 2 ! NONE
            misset 47 0 2 = 0
            at 48 0 0 ! NONE
            at 47 0 0 = 0
            faults 48 ! NONE
            faults 47 = 1
            fault 48 0 ! NONE
            fault 47 0 = 0
            distribute 48 ! NONE
            distribute 47 = 2
            """);
    }

    private void places() {
        String sentence = "its places are 0, 1, ..";
        cases.of("Terms 1", sentence, """
            cast 0..2 9
            tape abc
            page
            at 0 MIN,-1,3,MAX 0 ! NONE
            at 0 0..2 0 = 0 1 2
            set 0 0
            at 0 MIN,-1,3,MAX 1 ! NONE
            at 0 0..2 1 = 0 1 2
            misset 0 MIN,-1,3,MAX 0 ! NONE
            misset 0 0 2 = 0
            misset 0 2 0 = 2
            """);
        cases.of("Terms 1", sentence, """
            cast 0..1 200
            tape a*120
            page
            set 0 0 = 120
            misset 0 120 1 ! NONE
            misset 0 119 1 = 0
            at 0 120 1 ! NONE
            at 0 119 1 = 1
            fault 0 0 = 119
            """);
        cases.of("Terms 1", sentence, """
            cast 0..1 9
            tape a
            page
            set 0 0 = 1
            misset 0 1 1 ! NONE
            misset 0 0 1 = 0
            at 0 1 0..1 ! NONE
            """);
    }

    private void set() {
        cases.of("Terms 1", "TO SET a PAGE a HAND (0 .. 5)", "cast 0..1 9", Cases.pages(2), """
            set 0 MIN,-1,6,MAX ! NONE
            set 0 0 = 2
            set 1 5 = 2
            did 0..5 0 = 2 0 0 0 0 2
            """);
        cases.of("Terms 1", "takes from THE CASE a SORT for each letter of the COPY", """
            tape ab_a|a
            page
            cast 1 1
            cast 0 2
            set 0 0 ! -10
            sorts 0..1 = 2 1
            cast 0 1
            set 0 0 = 4
            sorts 0..1 = 0 0
            count 9 = 4
            """);
        cases.of("6 set", "how many SORTS it took", """
            tape _|
            page
            tape z
            page
            tape a*120
            page
            set 0 0 = 0
            cast 25 1
            set 1 0 = 1
            cast 0 119
            set 2 0 ! -10
            cast 0 1
            set 2 0 = 120
            did 0 0 = 121
            """);
        cases.of("6 set", "-10 less the first LETTER of which there are not enough", """
            tape zbab
            page
            set 0 0 ! -10
            cast 0 1
            cast 1 1
            set 0 0 ! -11
            cast 1 1
            set 0 0 ! -35
            cast 25 1
            set 0 0 = 4
            """);
        cases.of("6 set", "STATE: it is SET", """
            cast 0 9
            tape a
            page
            tape _
            page
            set 0 0 = 1
            set 0 0,1 ! STATE
            set 1 0 = 0
            set 1 0,1 ! STATE
            distribute 0 = 1
            set 0 1 = 1
            set 0 0 ! STATE
            cast 1 1
            misset 0 0 1 = 0
            did 0..1 3 = 0 1
            """);
    }

    private void misset() {
        cases.of("7 misset", "STATE: it is not SET", """
            cast 0..1 9
            tape a
            page
            misset 0 0 0,1 ! STATE
            set 0 0
            misset 0 0 1 = 0
            distribute 0
            misset 0 0 0,1 ! STATE
            sorts 0..1 = 9
            """);
        cases.of("7 misset", "BAD: it is that LETTER, or no letter stands there", """
            cast 0..1 9
            tape a_|
            page
            set 0 0
            misset 0 0 0 ! BAD
            misset 0 1,2 0..1 ! BAD
            misset 0 0 1 = 0
            misset 0 0 1 ! BAD
            misset 0 0 0 = 1
            misset 0 0 0 ! BAD
            """);
        cases.of("7 misset", "FULL: no such SORT is in THE CASE", """
            cast 0..1 1
            tape a
            page
            set 0 0
            misset 0 0 2 ! FULL
            misset 0 0 1 = 0
            sorts 0..1 = 1 0
            tape b
            page
            cast 1 1
            set 1 0
            misset 0 0 0 = 1
            misset 1 0 0 ! FULL
            cast 0 1
            misset 1 0 0 = 1
            sorts 0..1 = 0 2
            """);
        cases.of("Terms 1", "the SORT there goes to THE CASE, one of another letter is taken from it", """
            cast 0,25 1
            tape a
            page
            set 0 0
            misset 0 0 25 = 0
            sorts 0,25 = 1 0
            at 0 0 0..1 = 0 25
            misset 0 0 0 = 25
            sorts 0,25 = 0 1
            at 0 0 0..1 = 0 0
            """);
    }

    private void missettingsOfAForme() {
        String sentence = "or its FORME had 30 MISSETTINGS since its first impression";
        String thirty = "misset 0 0 2 = 0\nmisset 0 0 0 = 2\n".repeat(15);
        String but1 = "misset 0 0 2 = 0\nmisset 0 0 0 = 2\n".repeat(14) + "misset 0 0 2 = 0\n";
        cases.of("7 misset", sentence, Cases.sheetOf(2), "print 0 0 1 = 1\n", but1, """
            forme 0 3 = 29
            misset 3 0 2 = 0
            forme 0 3 = 30
            misset 3 0 0 ! FULL
            misset 0 0 0 ! FULL
            misset 0 1 2 ! FULL
            forme 0 3 = 30
            """);
        cases.of("7 misset", sentence, Cases.sheetOf(2), thirty, """
            forme 0 3 = 0
            print 0 0 1 = 1
            """, thirty, """
            misset 0 0 2 ! FULL
            misset 1 0 2 = 0
            print 0 0 1 = 1
            state 0 0..1 0 = 0 30
            misset 0 0 2 ! FULL
            breakUp 0 = 0
            misset 0 0 2 = 0
            forme 0 3 = 30
            """);
        cases.of("7 misset", sentence, Cases.sheetOf(1), "print 0 0 1 = 1\n", but1, """
            misset 0 0 5 ! FULL
            misset 0 0 2 ! BAD
            forme 0 3 = 29
            misset 0 0 0 = 2
            misset 0 0 2 ! FULL
            print 1 0 1 = 1
            misset 1 0 2 = 0
            forme 0..1 3 = 30 1
            """);
    }

    private void distribute() {
        cases.of("8 distribute", "STATE: it is not SET, or in a FORME", Cases.setPages(4), """
            sheet 1 0 1
            distribute 0 = 2
            distribute 0 ! STATE
            set 0 0
            impose 0 0 = 2
            distribute 0,3 ! STATE
            distribute 1,2 = 2
            distribute 1,2 ! STATE
            paper 1
            print 0 0 1 = 1
            distribute 0,3 ! STATE
            breakUp 0 = 0
            distribute 0,3 = 2
            distribute 0,3 ! STATE
            sorts 0..1 = 500
            """);
        cases.of("Terms 1", "all its SORTS go to THE CASE, it is not SET any more", """
            cast 0..2 5
            tape _
            page
            tape abc
            page
            set 0..1 0 = 0 3
            misset 1 0 2 = 0
            distribute 0 = 0
            distribute 1 = 3
            sorts 0..2 = 5
            at 1 0 1 ! STATE
            count 1 = 0
            count 9 = 0
            """);
    }

    private void at() {
        cases.of("9 at", "what 0 in the COPY, 1 as it is SET", "cast 0..2 9", Cases.pages(1), """
            at 0 0 MIN,-1,2,MAX ! NONE
            at 0 0 0 = 0
            set 0 0
            misset 0 0 2
            at 0 0 0..1 = 0 2
            at 0 0 MIN,-1,2,MAX ! NONE
            """);
        cases.of("9 at", "STATE (what 1): it is not SET", "cast 0..2 9", Cases.pages(1), """
            at 0 0..1 1 ! STATE
            at 0 0..1 0 = 0 1
            set 0 0
            at 0 0..1 1 = 0 1
            distribute 0
            at 0 0..1 1 ! STATE
            """);
        cases.of("9 at", "(a LETTER 0 .. 25; 32 a blank, 33 a line end)", """
            cast 0,25 1
            tape az_|
            page
            at 0 0..3 0 = 0 25 32 33
            set 0 0
            at 0 0..3 1 = 0 25 32 33
            """);
    }

    private void faults() {
        cases.of("10 faults", "STATE: it is not SET", "cast 0..2 9", Cases.pages(1), """
            faults 0 ! STATE
            fault 0 MIN,-1,0,1,MAX ! STATE
            set 0 0
            faults 0 = 0
            distribute 0
            faults 0 ! STATE
            fault 0 0 ! STATE
            """);
        cases.of("11 fault", "The place of FAULT i, from 0 on.", """
            cast 0..2 9
            tape a_bb|a
            page
            set 0 0
            fault 0 MIN,-1,0,MAX ! NONE
            misset 0 5 2
            misset 0 0 2
            misset 0 3 2
            faults 0 = 3
            fault 0 0..2 = 0 3 5
            fault 0 MIN,-1,3,MAX ! NONE
            misset 0 3 1
            faults 0 = 2
            fault 0 0..1 = 0 5
            fault 0 2 ! NONE
            """);
        cases.of("Terms 1", "FAULTS of a PAGE that is SET: places where it is unlike the COPY.", """
            cast 0..1 120
            tape a*120
            page
            set 0 3
            misset 0 0..118 1 = 0
            faults 0 = 119
            misset 0 119 1 = 0
            faults 0 = 120
            fault 0 0,119 = 0 119
            fault 0 120 ! NONE
            did 3 3 = 120
            """);
    }

    private void calls() {
        String sentence = "An object is used for at most 512 calls after it has been made";
        cases.of("What it is", sentence, """
            170x feed 97 1
            page = -130
            340x cast 0 1
            sorts 0 = 340
            """);
    }
}
