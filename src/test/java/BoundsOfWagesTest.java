import java.io.IOException;

/** Bounds of section 4's LAW, of section 5, and of promises 30 to 36: the law, wages, jobs, the plan, count. */
public final class BoundsOfWagesTest {
    private final Cases cases;

    private BoundsOfWagesTest(Cases cases) {
        this.cases = cases;
    }

    public static void main(String[] args) throws IOException {
        BoundsOfWagesTest test = new BoundsOfWagesTest(new Cases());
        test.clauses();
        test.words();
        test.numbers();
        test.numbersBehind();
        test.noBlanks();
        test.endsTooEarly();
        test.firstByte();
        test.lastClause();
        test.wordsWithoutClause();
        test.theLaw();
        test.wages();
        test.zeroAtLeast();
        test.faultsAndSpoilt();
        test.did();
        test.jobHours();
        test.jobTotal();
        test.late();
        test.plan();
        test.planned();
        test.count();
        test.cases.end();
    }

    /** Rows that feed each text and ask for the law: the answer, the number of clauses or -10 less the fault. */
    private static String laws(Object... textsAndAnswers) {
        StringBuilder rows = new StringBuilder();
        for (int k = 0; k < textsAndAnswers.length; k += 2) {
            rows.append("tape ").append(textsAndAnswers[k]).append("\nlaw = ").append(textsAndAnswers[k + 1]);
            rows.append("\ncount 6 = 0\n");
        }
        return rows.toString();
    }

    private void clauses() {
        String sentence = "CLAUSES, with ; between, 8 at most";
        String seven = "set=1;".repeat(6) + "set=1";
        String eight = seven + ";set=1";
        cases.of("Terms 4", sentence, laws("set=1", 1, "set=1;set=1", 2, seven, 7, eight, 8,
            eight + ";", -57, eight + ";set=1", -57, eight + ";x", -57, eight + "x", -57));
        String longest = "fault=9999/9999;".repeat(7) + "spoil=9999/9999";
        cases.of("Terms 4", sentence, laws(longest, 8, longest + ";", -10 - longest.length(),
            longest + "9", -10 - longest.length()));
        cases.of("Terms 4", sentence, laws(";", -10, ";set=1", -10, "set=1;;set=1", -16, "set=1;", -16));
    }

    private void words() {
        cases.of("Terms 4", "WORDS: set fault print spoil", laws("set=1", 1, "fault=1", 1, "print=1", 1, "spoil=1", 1,
            "a", -10, "z", -10, "S", -10, "SET=1", -10, "sets=1", -13, "se=1", -12, "st=1", -11, "spot", -13,
            "fat", -12, "pit", -11, "prince", -14, "spoiled", -15, "faulty", -15, "printer", -15, "=1", -10, "1", -10));
    }

    private void numbers() {
        String sentence = "numbers: 1 to 4 digits, no 0 ahead of other digits";
        cases.of("Terms 4", sentence, laws("set=", -14, "set=0", 1, "set=9", 1, "set=10", 1, "set=999", 1,
            "set=1000", 1, "set=9999", 1, "set=10000", -18, "set=99999", -18));
        cases.of("Terms 4", sentence, laws("set=00", -15, "set=01", -15, "set=0001", -15, "set=0;set=0", 2,
            "set=0/1", 1, "set=1/", -16, "set=1/9", 1, "set=1/1000", 1, "set=1/9999", 1, "set=1/10000", -20));
        cases.of("Terms 4", sentence, laws("set=-1", -14, "set=+1", -14, "set=/", -14, "set=:", -14, "set=a", -14,
            "set=1/-1", -16, "set=1//1", -16, "set=1/:", -16, "set=1.5", -15, "set=1:", -15));
    }

    private void numbersBehind() {
        cases.of("Terms 4", "the one behind / not 0", laws("set=1/0", -16, "set=1/00", -16, "set=1/01", -16,
            "set=0/0", -16, "set=1/1", 1, "set=0/9", 1, "set=1/10", 1, "set=1/1/1", -17));
    }

    private void noBlanks() {
        cases.of("Terms 4", "no blanks", laws("_set=1", -10, "s_et=1", -11, "set_=1", -13, "set=_1", -14, "set=1_", -15,
            "set=1_0", -15, "set=1/_1", -16, "set=1;_set=1", -16, "set=1|", -15, "|set=1", -10));
    }

    private void endsTooEarly() {
        cases.of("Terms 4", "(the size of THE TAPE, if it ends too early)", "law = -10\n",
            laws("s", -11, "se", -12, "set", -13, "set=", -14, "set=1/", -16, "set=1;", -16, "set=1;p", -17,
                "prin", -14, "fault", -15, "set=12/", -17));
    }

    private void firstByte() {
        String sentence = "the place of the first byte with which no LAW can go on";
        cases.of("Terms 4", sentence, laws("x*300", -10, "set=1 x*295", -15, "set=1x;", -15, "set=1;x=1", -16));
        cases.of("Terms 4", sentence, """
            feed 0 1
            law = -10
            feed 255 1
            law = -10
            feed 0xf3 1
            law = -10
            tape set=1
            feed 0 1
            law = -15
            tape set=1
            feed 0xb1 1
            law = -15
            """);
    }

    private void lastClause() {
        cases.of("Terms 4", "The last CLAUSE of a WORD counts", "cast 0..1 9", Cases.pages(1), """
            set 0 0 = 2
            tape set=5;print=1;set=3
            law = 3
            wages 0 = 6
            tape set=9/2;set=9
            law = 2
            wages 0 = 18
            tape set=9;set=9/2;print=7
            law = 3
            wages 0 = 9
            tape print=7
            law = 1
            wages 0 = 0
            """);
    }

    private void wordsWithoutClause() {
        cases.of("Terms 4", "a WORD without one: 0", Cases.sheetOf(3), """
            print 0 0 3
            misset 1 0 2
            spoil 0 0 0
            spoil 0 1 0
            did 0 0..3 = 8 3 2 1
            tape set=10
            law = 1
            wages 0 = 80
            tape print=10
            law = 1
            wages 0 = 30
            tape set=10;fault=7
            law = 2
            wages 0 = 73
            tape print=10;spoil=7
            law = 2
            wages 0 = 16
            tape fault=1;spoil=1
            law = 2
            wages 0 = 0
            """);
    }

    private void theLaw() {
        cases.of("Terms 4", "THE LAW is the latest that was read (at first all are 0).", Cases.sheetOf(2), """
            print 0 0 2
            wages 0..5 = 0
            tape set=1;print=10
            law = 2
            wages 0 = 28
            """);
        cases.of("30 law", "-10 less the FAULT (the one ahead stays THE LAW)", "cast 0..1 9", Cases.pages(1), """
            set 0 0 = 2
            tape set=4
            law = 1
            tape set=5;
            law = -16
            wages 0 = 8
            tape set=5;set=6/0
            law = -22
            wages 0 = 8
            law = -10
            wages 0 = 8
            """);
        cases.of("30 law", "THE TAPE, which is empty then, is THE LAW: how many CLAUSES", """
            tape set=1
            law = 1
            count 6 = 0
            law = -10
            tape set=1x
            law = -15
            count 6 = 0
            tape set=
            tape 12
            law = 1
            """);
    }

    private void wages() {
        cases.of("31 wages", "WAGES. NONE.", "cast 0..1 9", Cases.pages(1), """
            set 0 5
            tape set=3
            law = 1
            wages MIN,-1,6,MAX ! NONE
            wages 0..5 = 0 0 0 0 0 6
            """);
        cases.of("Terms 4", "divided by its second one (1 without), cut", """
            cast 0 9
            tape aaaaa
            page
            set 0 0 = 5
            tape set=1/5
            law = 1
            wages 0 = 1
            tape set=1/6
            law = 1
            wages 0 = 0
            tape set=2/5
            law = 1
            wages 0 = 2
            tape set=3/8
            law = 1
            wages 0 = 1
            tape set=9999/9999
            law = 1
            wages 0 = 5
            tape set=9999
            law = 1
            wages 0 = 49995
            tape set=0/9
            law = 1
            wages 0 = 0
            tape set=1/9999
            law = 1
            wages 0 = 0
            """);
        // some 29,000 letters at 9999 each is the dearest that fits into the calls of an object and into an int
        cases.of("Terms 4", "letters that it SET in all", """
            cast 0 120
            tape a*120
            page
            tape set=9999
            law = 1
            """, "set 0 2 = 120\ndistribute 0 = 120\n".repeat(240), """
            did 2 0 = 28800
            wages 2 = 287971200
            """);
        cases.of("Terms 4", "impressions that it made in all", Cases.sheetOf(60), """
            print 0 1 59
            print 0 2 1
            print 1 1 60
            tape print=9999
            law = 1
            wages 0..2 = 0 1189881 9999
            """);
    }

    private void zeroAtLeast() {
        cases.of("Terms 4", "(0 at least.)", "cast 0..2 9", Cases.pages(1), """
            set 0 0 = 2
            misset 0 0 2 = 0
            tape set=3;fault=5
            law = 2
            wages 0 = 1
            tape set=3;fault=6
            law = 2
            wages 0 = 0
            tape set=3;fault=7
            law = 2
            wages 0 = 0
            tape fault=9999
            law = 1
            wages 0 = 0
            """);
    }

    private void faultsAndSpoilt() {
        cases.of("Terms 4", "less, of fault: FAULTS of the PAGES now SET by it", "cast 0..2 9", Cases.pages(2), """
            set 0 0
            set 1 1
            tape set=10;fault=3
            law = 2
            misset 0..1 0 2
            wages 0..1 = 17
            misset 0 1 2
            wages 0..1 = 14 17
            distribute 0
            wages 0 = 20
            set 0 1
            wages 0..1 = 20 37
            misset 0 0 2
            wages 0..1 = 20 34
            misset 0..1 0 0
            wages 0..1 = 20 40
            """);
        cases.of("Terms 4", "of spoil: COPIES that were SPOILT as its", Cases.sheetOf(3), """
            print 0 1 3
            tape print=10;spoil=7/2
            law = 2
            spoil 0 0 1
            wages 1 = 27
            spoil 0 1 1
            wages 1 = 23
            spoil 0 2 0
            wages 0..1 = 0 23
            """);
    }

    private void did() {
        cases.of("32 did", "1 impressions made, 2 COPIES SPOILT, 3 FAULTS now. NONE.", Cases.sheetOf(2), """
            print 0 5 2
            spoil 0 0 5
            misset 0 0 2
            did MIN,-1,6,MAX 0..3 ! NONE
            did 0,5 MIN,-1,4,MAX ! NONE
            did 0 0..3 = 8 0 0 1
            did 5 0..3 = 0 2 1 0
            """);
    }

    private void jobHours() {
        cases.of("Terms 5", "hours to SET (0 .. 50), hours to PRINT (0 .. 50)", """
            job MIN,-1,51,MAX 0 0 ! BAD
            job 0 MIN,-1,51,MAX 0 ! BAD
            job 0 0 0 = 0
            job 50 0 0 = 1
            job 0 50 0 = 2
            job 50 50 0 = 3
            job 51 50 0 ! BAD
            job 50 51 0 ! BAD
            count 7 = 4
            """);
        cases.of("Terms 5", "DUE (0 .. 500)", """
            job 0 0 MIN,-1,501,MAX ! BAD
            job 0 0 0 = 0
            job 0 0 500 = 1
            job 0 0 501 ! BAD
            count 7 = 2
            """);
    }

    private void jobTotal() {
        cases.of("Terms 5", "JOBS are numbered from 0 on, 7 at most", """
            job 1 1 1 = 0
            job 1 1 1 = 1
            job 1 1 1 = 2
            job 1 1 1 = 3
            job 1 1 1 = 4
            job 1 1 1 = 5
            job 1 1 1 = 6
            job 1 1 1 ! FULL
            job 0 0 0 ! FULL
            job 50 50 500 ! FULL
            count 7 = 7
            plan = 28
            planned 0..6 0 = 0 1 2 3 4 5 6
            planned 0..6 1 = 2 3 4 5 6 7 8
            """);
    }

    private void late() {
        String sentence = "LATE is how much the end of its printing is above DUE (0 if not).";
        cases.of("Terms 5", sentence, "job 3 4 8\nplan = 0\n");
        cases.of("Terms 5", sentence, "job 3 4 7\nplan = 0\nplanned 0 1 = 7\n");
        cases.of("Terms 5", sentence, "job 3 4 6\nplan = 1\n");
        cases.of("Terms 5", sentence, "job 50 50 0\nplan = 100\nplanned 0 1 = 100\n");
        cases.of("Terms 5", sentence, "job 0 0 0\nplan = 0\nplanned 0 1 = 0\n");
        cases.of("Terms 5", sentence, "7x job 50 50 0\nplan = 1750\nplanned 6 1 = 400\n");
        cases.of("Terms 5", sentence, "7x job 50 50 500\nplan = 0\nplanned 6 0..1 = 6 400\n");
    }

    private void plan() {
        cases.of("34 plan", "(0 without any)", """
            plan = 0
            planned 0 0..1 ! NONE
            plan = 0
            """);
        String sentence = "the order by which all together are LATE by the least, of several the one that ends first, "
            + "then the least as a row";
        cases.of("Terms 5", sentence, """
            job 5 1 500
            job 1 5 500
            plan = 0
            planned 0..1 0 = 1 0
            planned 0..1 1 = 6 7
            """);
        cases.of("Terms 5", sentence, """
            job 5 1 6
            job 1 5 500
            plan = 0
            planned 0..1 0 = 0 1
            planned 0..1 1 = 6 11
            """);
        cases.of("Terms 5", sentence, """
            job 2 2 500
            job 2 2 500
            job 2 2 500
            plan = 0
            planned 0..2 0 = 0 1 2
            planned 0..2 1 = 4 6 8
            """);
        cases.of("Terms 5", sentence, """
            job 3 3 20
            job 3 3 6
            job 0 0 0
            plan = 0
            planned 0..2 0 = 2 1 0
            planned 0..2 1 = 0 6 9
            """);
        cases.of("Terms 5", "In an order each is SET as soon as the one ahead is SET", """
            job 4 9 13
            job 4 0 13
            job 4 1 500
            plan = 0
            planned 0..2 0 = 0 1 2
            planned 0..2 1 = 13 13 14
            """);
    }

    private void planned() {
        String sentence = "JOB at place i of the latest plan(): what 0 its number, 1 the end of its printing. NONE.";
        cases.of("35 planned", sentence, """
            planned 0 0..1 ! NONE
            job 1 1 1
            job 2 2 2
            planned 0 0..1 ! NONE
            plan = 4
            planned MIN,-1,2,7,MAX 0..1 ! NONE
            planned 0..1 MIN,-1,2,MAX ! NONE
            planned 0..1 0 = 0 1
            planned 0..1 1 = 2 5
            """);
        cases.of("35 planned", "of the latest plan()", """
            job 9 9 500
            plan = 0
            job 0 1 1
            planned 0 0..1 = 0 18
            planned 1 0 ! NONE
            plan = 0
            planned 0..1 0 = 1 0
            planned 0..1 1 = 1 18
            planned 2 0 ! NONE
            job 51 0 0 ! BAD
            planned 0..1 0 = 1 0
            """);
        cases.of("35 planned", sentence, "7x job 1 1 500\n", """
            plan = 0
            planned 6 0..1 = 6 8
            planned 7 0..1 ! NONE
            """);
    }

    private void count() {
        cases.of("36 count", "9 SORTS in PAGES that are SET. NONE.", Cases.sheetOf(2), """
            count MIN,-1,10,MAX ! NONE
            print 0 0 2
            print 1 0 1
            spoil 0 1 0
            job 1 1 1
            tape abc
            breakUp 0
            distribute 0
            misset 3 0 2
            count 0..9 = 4 3 1 118 3 1 3 1 1 6
            """);
        cases.of("36 count", "0 PAGES, 1 those that are SET, 2 SHEETS, 3 PAPER", "cast 0..1 48", Cases.pages(48), """
            set 0..47 0 = 2
            sheet 1 0,4,8,12,16,20 1 = 0 1 2 3 4 5
            count 0..2 = 48 48 6
            count 9 = 96
            distribute 0,47 = 2
            count 0..2 = 48 46 6
            count 9 = 92
            """);
        cases.of("36 count", "8 FORMES that are IMPOSED", Cases.setPages(8), """
            sheet 1 0 1
            sheet 1 4 1
            count 8 = 0
            impose 0 3
            impose 1 2
            impose 2 1
            count 8 = 3
            impose 3 0
            count 8 = 4
            breakUp 0..3 = 3 2 1 0
            count 8 = 0
            """);
    }
}
