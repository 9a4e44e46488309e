import java.io.IOException;

/** Bounds of BOOKS in section 3, of section 4's ORDER, and of promises 22 to 29. */
public final class BoundsOfBooksTest {
    private final Cases cases;

    private BoundsOfBooksTest(Cases cases) {
        this.cases = cases;
    }

    public static void main(String[] args) throws IOException {
        BoundsOfBooksTest test = new BoundsOfBooksTest(new Cases());
        test.noBooks();
        test.bothSides();
        test.allSheets();
        test.notSpoilt();
        test.bookNumbers();
        test.unlike();
        test.kinds();
        test.seen();
        test.wear();
        test.sets();
        test.setsOfOneAndSeven();
        test.quarrels();
        test.leastOrder();
        test.ordered();
        test.rivals();
        test.cases.end();
    }

    private void noBooks() {
        cases.of("Terms 3", "(and there is a SHEET)", """
            books = 0
            kinds = 0
            inBook 0 0 ! NONE
            unlike 0 0 ! NONE
            """, Cases.setPages(4), """
            books = 0
            kinds = 0
            sheet 1 0 1
            books = 0
            kinds = 0
            inBook 0 0 ! NONE
            unlike 0 0 ! NONE
            """);
    }

    private void bothSides() {
        cases.of("Terms 3", "with both sides printed", Cases.sheetOf(3), """
            print 0 0 3 = 3
            books = 0
            inBook 0..2 0 ! NONE
            print 1 0 1 = 1
            books = 1
            inBook 0,1,3 0 ! NONE
            inBook 2 0 = 2
            unlike 2 0..1 ! NONE
            unlike 2 2 = 0
            print 1 0 1 = 1
            books = 2
            inBook 0 0 ! NONE
            inBook 1..2 0 = 1 2
            print 1 0 1 = 1
            books = 3
            inBook 0..2 0 = 0 1 2
            """);
    }

    private void allSheets() {
        cases.of("Terms 3", "it is there if of all SHEETS there is such a one", Cases.setPages(12), """
            sheet 1 0 3
            sheet 1 4 1
            paper 60
            impose 0 0
            impose 1 1
            impose 2 2
            impose 3 3
            print 0 0 3
            print 1 0 3
            books = 0
            print 2 0 1
            books = 0
            print 3 0 1
            books = 1
            inBook 0 0..1 = 0
            inBook 1 0..1 ! NONE
            sheet 1 8 60
            books = 0
            kinds = 0
            inBook 0 0..2 ! NONE
            """);
    }

    private void notSpoilt() {
        String sentence = "of each SHEET the k-th COPY that is not SPOILT";
        cases.of("Terms 3", sentence, Cases.sheetOf(3), """
            print 0 0 3
            print 1 0 3
            spoil 0 0 0 = 1
            books = 2
            inBook 0..1 0 = 1 2
            inBook 2 0 ! NONE
            spoil 0 2 0 = 2
            books = 1
            inBook 0 0 = 1
            inBook 1 0 ! NONE
            spoil 0 1 0 = 3
            books = 0
            kinds = 0
            inBook 0 0 ! NONE
            """);
        cases.of("Terms 3", sentence, Cases.sheetOf(3), """
            print 0 0 3
            print 1 0 2
            books = 2
            inBook 1..2 0 = 1 2
            spoil 0 0 0 = 1
            books = 2
            inBook 0..1 0 = 1 2
            spoil 0 2 0 = 2
            inBook 0 0 = 1
            books = 1
            """);
    }

    private void bookNumbers() {
        cases.of("Terms 3", "BOOK k, from 0 on", Cases.sheetOf(60), """
            print 0 0 60
            print 1 0 60
            books = 60
            inBook MIN,-1,60,61,MAX 0 ! NONE
            inBook 0,59 0 = 0 59
            unlike MIN,-1,60,61,MAX 0 ! NONE
            unlike 0 MIN,-1,60,61,MAX ! NONE
            unlike 0 0,59 = 0
            unlike 59 0,59 = 0
            spoil 0 0 0
            inBook 59 0 ! NONE
            inBook 58 0 = 59
            unlike 59 0 ! NONE
            unlike 0 59 ! NONE
            unlike 0 58 = 0
            """);
        cases.of("23 inBook", "The COPY of a SHEET in a BOOK. NONE.", Cases.sheetOf(2), """
            print 0 0 2
            print 1 0 2
            inBook 0..1 MIN,-1,1,6,MAX ! NONE
            inBook 0..1 0 = 0 1
            inBook 2 0 ! NONE
            """);
    }

    private void unlike() {
        String sentence = "UNLIKE are two BOOKS by how many FORMES of theirs have other STATES.";
        StringBuilder rows = new StringBuilder();
        for (int sheet = 0; sheet < 6; sheet++) {
            rows.append("sheet 1 ").append(4 * sheet).append(" 2 = ").append(sheet).append('\n');
        }
        for (int forme = 0; forme < 12; forme++) {
            int page = 4 * (forme / 2) + forme % 2;
            rows.append("impose ").append(forme).append(" 0\nprint ").append(forme).append(" 0 1 = 1\n");
            rows.append("misset ").append(page).append(" 0 2 = 0\nprint ").append(forme).append(" 0 1 = 1\n");
            rows.append("breakUp ").append(forme).append(" = 0\n");
        }
        cases.of("Terms 3", sentence, Cases.setPages(24), "paper 60", rows.toString(), """
            unlike 0 1 = 12
            unlike 1 0 = 12
            unlike 0 0 = 0
            kinds = 2
            unlike 0 2 ! NONE
            """);
        cases.of("Terms 3", sentence, Cases.sheetOf(4), """
            print 0 0 1
            misset 0 0 2
            print 0 0 2
            misset 0 0 0
            print 0 0 1
            print 1 0 4
            unlike 0 1..3 = 1 1 1
            unlike 1 2 = 0
            unlike 3 2 = 1
            read 0 0,3 0 0 = 0 0
            kinds = 3
            """);
    }

    private void kinds() {
        String sentence = "how many, no two of them alike in all STATES, there are";
        cases.of("Terms 3", sentence, Cases.sheetOf(60), """
            print 0 0 60
            print 1 0 59
            kinds = 1
            misset 1 0 2
            print 1 0 1
            kinds = 2
            spoil 0 0 0
            kinds = 1
            """);
        cases.of("Terms 3", sentence, Cases.sheetOf(1), """
            kinds = 0
            print 0 0 1
            kinds = 0
            print 1 0 1
            kinds = 1
            """);
        // 31 states outside and, from the other end of the heap, as many inside: no two copies are alike
        StringBuilder rows = new StringBuilder();
        for (int forme = 0; forme < 2; forme++) {
            for (int k = 0; k < 30; k++) {
                rows.append("print ").append(forme).append(" 0 1\n");
                rows.append("misset ").append(forme).append(k % 2 == 0 ? " 0 2\n" : " 0 0\n");
            }
            rows.append("print ").append(forme).append(" 0 60 = 30\n");
        }
        cases.of("Terms 3", sentence, Cases.sheetOf(60), rows.toString(), """
            kinds = 60
            forme 0..1 4 = 31
            state 0 0,30,59 0 = 0 30 30
            state 0 0,30,59 1 = 30 29 0
            unlike 29 30 = 2
            unlike 0 1 = 1
            """);
    }

    private void seen() {
        String sentence = "-5: there is no such letter, FORME 0 .. 11";
        cases.of("26 seen", sentence, """
            seen MIN,-1,6,MAX 0 3 ! NOSUCH
            seen 0 MIN,-1,12,MAX 3 ! NOSUCH
            seen 0,5 0,11 3 = NONE
            seen 0,5 0,11 3 = 3
            seen 1,4 1,10 0 = NONE
            """);
        cases.of("Terms 4", "BROKEN letters 0 .. 5 were seen in FORMES 0 .. 11", """
            seen 0..5 0..11 9 = NONE
            seen 0..5 0..11 0 = 9
            seen 6 0 0 ! NOSUCH
            seen 0 12 0 ! NOSUCH
            """);
    }

    private void wear() {
        cases.of("Terms 4", "with a WEAR (0 .. 9), or not seen", """
            seen 2 3 MIN,-2,10,MAX ! BAD
            seen 2 3 0 = NONE
            seen 2 3 -2,10 ! BAD
            seen 2 3 9 = 0
            seen 2 3 -1 = 9
            seen 2 3 -1 = NONE
            seen 2 3 9 = NONE
            """);
        cases.of("26 seen", "(-1: not seen): what it was (NONE: not seen)", """
            seen 0 0 5 = NONE
            seen 0 1 4 = NONE
            order 3 = 0
            ordered 0..1 = 1 0
            seen 0 0 -1 = 5
            order 3 = 0
            ordered 0..1 = 0 1
            rivals = 2
            seen 0 0 4 = NONE
            order 3 = 0
            rivals = 2
            """);
    }

    private void sets() {
        cases.of("27 order", "BAD: a bit of none, not 1 .. 7", """
            order 0 ! BAD
            rivals ! STATE
            order 1 = 0
            order 2048 = 0
            order 4096,4097,6144,65536,MIN,-1,MAX,-2147483647 ! BAD
            ordered 0 = 11
            order 127 = 0
            order 255,511,4095 ! BAD
            ordered 0..7 = 0 1 2 3 4 5 6 NONE
            order 4064 = 0
            order 4080 ! BAD
            ordered 0..7 = 5 6 7 8 9 10 11 NONE
            """);
    }

    private void setsOfOneAndSeven() {
        String sentence = "An ORDER of a set of FORMES (1 .. 7)";
        StringBuilder rows = new StringBuilder();
        for (int forme = 0; forme < 12; forme++) {
            rows.append("seen 0 ").append(forme).append(' ').append(Math.max(0, 9 - forme)).append('\n');
            rows.append("order ").append(1 << forme).append(" = 0\nordered 0 = ").append(forme).append('\n');
            rows.append("rivals = 1\nordered 1 ! NONE\n");
        }
        cases.of("Terms 4", sentence, rows.toString(), """
            order 127 = 0
            ordered 0..6 = 6 5 4 3 2 1 0
            rivals = 1
            order 4064 = 0
            ordered 0..6 = 9 10 11 8 7 6 5
            rivals = 6
            """);
    }

    private void quarrels() {
        String sentence = "the one that comes first shows more WEAR";
        cases.of("Terms 4", sentence, """
            seen 0 0 4
            seen 0 1 4
            order 3 = 0
            rivals = 2
            seen 0 1 3
            order 3 = 0
            rivals = 1
            ordered 0..1 = 1 0
            seen 1 0 0
            seen 1 1 1
            order 3 = 1
            rivals = 2
            ordered 0..1 = 0 1
            seen 1 0 -1
            order 3 = 0
            ordered 0..1 = 1 0
            """);
        StringBuilder rows = new StringBuilder();
        for (int letter = 0; letter < 6; letter++) {
            for (int forme = 0; forme < 7; forme++) {
                int wear = letter % 2 == 0 ? forme : 9 - forme;
                rows.append("seen ").append(letter).append(' ').append(forme).append(' ').append(wear).append('\n');
            }
        }
        cases.of("Terms 4", "for each BROKEN letter, the pairs of FORMES of the set", rows.toString(), """
            order 127 = 63
            rivals = 5040
            ordered 0..6 = 0 1 2 3 4 5 6
            seen 0 0 -1 = 0
            order 127 = 57
            ordered 0..6 = 1 2 3 4 5 6 0
            rivals = 720
            """);
    }

    private void leastOrder() {
        cases.of("Terms 4", "THE ORDER has the fewest QUARRELS, of several it is the least as a row of numbers", """
            order 2184 = 0
            ordered 0..2 = 3 7 11
            seen 0 3 1
            seen 0 11 0
            order 2184 = 0
            ordered 0..2 = 7 11 3
            rivals = 3
            seen 1 11 1
            seen 1 7 0
            order 2184 = 0
            ordered 0..2 = 7 11 3
            rivals = 1
            seen 2 3 0
            seen 2 7 1
            order 2184 = 1
            ordered 0..2 = 3 7 11
            rivals = 3
            """);
    }

    private void ordered() {
        cases.of("28 ordered", "FORME i of THE ORDER that order() found latest, from 0 on.", """
            ordered MIN,-1,0,MAX ! NONE
            order 38 = 0
            ordered 0..2 = 1 2 5
            ordered MIN,-1,3,MAX ! NONE
            order 0,4096 ! BAD
            ordered 0..2 = 1 2 5
            order 16 = 0
            ordered 0 = 4
            ordered 1,2 ! NONE
            order 127 = 0
            ordered 6 = 6
            ordered 7 ! NONE
            """);
    }

    private void rivals() {
        cases.of("29 rivals", "STATE: there was none", """
            rivals ! STATE
            order 0,255,4096 ! BAD
            rivals ! STATE
            order 1 = 0
            rivals = 1
            order 0 ! BAD
            rivals = 1
            """);
        cases.of("Terms 4", "RIVALS: how many orders have so few", """
            order 1,3,7,15,31,63,127 = 0
            rivals = 5040
            seen 0 0 1
            seen 0 1 0
            rivals = 5040
            order 127 = 0
            rivals = 2520
            """);
    }
}
