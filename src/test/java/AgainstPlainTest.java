import java.util.Random;

/** Long runs of calls, the same ones on TypeHouse and on PlainHouse: every answer must be the same. */
public final class AgainstPlainTest {
    private static final int RUNS = 400, CALLS = 512;

    private final Check check;
    private final Random random;
    private final TypeHouse x = new TypeHouse();
    private final PlainHouse y = new PlainHouse();
    private final int[] tally;
    private int calls;
    private final int letters;
    private final boolean manyJobs;

    private AgainstPlainTest(Check check, int seed, int[] tally) {
        this.check = check;
        this.tally = tally;
        random = new Random(seed);
        letters = 2 + random.nextInt(3);
        manyJobs = random.nextInt(4) == 0;
    }

    public static void main(String[] args) {
        Check check = new Check();
        int[] tally = new int[5];
        for (int seed = 0; seed < RUNS; seed++) {
            check.part("seed " + seed);
            new AgainstPlainTest(check, seed, tally).run();
        }
        check.due("there were laws", tally[0] > 100 ? 1 : 0, 1);
        check.due("there were books", tally[1] > 100 ? 1 : 0, 1);
        check.due("there were several kinds", tally[2] > 100 ? 1 : 0, 1);
        check.due("pages were read", tally[3] > 1000 ? 1 : 0, 1);
        check.due("there were wages", tally[4] > 100 ? 1 : 0, 1);
        check.end();
    }

    private void due(String call, int got, int want) {
        check.due("call " + calls + " " + call, got, want);
        calls++;
    }

    /** Mostly 0 .. n - 1, now and then just outside, seldom far outside. */
    private int some(int n) {
        int kind = random.nextInt(60);
        if (kind == 0) {
            return -1;
        }
        if (kind == 1) {
            return n;
        }
        if (kind == 2) {
            return random.nextInt();
        }
        return n > 0 ? random.nextInt(n) : 0;
    }

    private void run() {
        begin();
        while (calls < CALLS) {
            switch (random.nextInt(5)) {
                case 0 -> type();
                case 1, 2 -> formes();
                case 3 -> printed();
                default -> rest();
            }
        }
    }

    private void feed(String text) {
        for (int from = 0; from < text.length(); from += 8) {
            int n = Math.min(8, text.length() - from);
            long w = random.nextLong();
            for (int k = 0; k < n; k++) {
                w = w << 8 | text.charAt(from + k);
            }
            due("feed", x.feed(w, n), y.feed(w, n));
        }
    }

    private void begin() {
        for (int letter = 0; letter < letters; letter++) {
            int n = 20 + random.nextInt(random.nextBoolean() ? 20 : 100);
            due("cast", x.cast(letter, n), y.cast(letter, n));
        }
        int n = 1 + random.nextInt(60);
        due("paper", x.paper(n), y.paper(n));
        int pages = 4 + random.nextInt(20);
        for (int k = 0; k < pages; k++) {
            newPage();
            due("set", x.set(k, k % 6), y.set(k, k % 6));
        }
        for (int first = 0; first + 4 <= pages && random.nextInt(3) > 0; first += 4) {
            int copies = 1 + random.nextInt(6);
            due("sheet", x.sheet(1, first, copies), y.sheet(1, first, copies));
        }
        for (int forme = 0; forme < 2 * y.count(2) && random.nextInt(5) > 0; forme++) {
            printWhole(forme ^ random.nextInt(2));
            printWhole(forme ^ random.nextInt(2));
        }
    }

    /** Imposed, printed with corrections between, and mostly broken up. */
    private void printWhole(int forme) {
        for (int skeleton = 0; skeleton < 4 && y.forme(forme, 0) == 0; skeleton++) {
            due("impose", x.impose(forme, skeleton), y.impose(forme, skeleton));
        }
        for (int k = 0; k < 3; k++) {
            printAndCorrect(forme, random.nextInt(6));
        }
        int n = 60;
        due("paper", x.paper(n), y.paper(n));
        due("print", x.print(forme, 0, n), y.print(forme, 0, n));
        if (random.nextInt(4) > 0) {
            due("breakUp", x.breakUp(forme), y.breakUp(forme));
        }
    }

    private void newPage() {
        StringBuilder copy = new StringBuilder();
        int size = 1 + random.nextInt(6);
        for (int k = 0; k < size; k++) {
            int kind = random.nextInt(40);
            copy.append(kind == 0 ? (char) random.nextInt(256)
                : kind < 5 ? ' ' : kind < 8 ? '\n' : (char) ('a' + random.nextInt(letters)));
        }
        if (random.nextInt(200) == 0) {
            copy.append("a".repeat(118));
        }
        feed(copy.toString());
        due("page", x.page(), y.page());
    }

    private void type() {
        int pages = y.count(0);
        int page = some(pages);
        int place = some(4);
        int letter = some(letters);
        int hand = some(6);
        int what = some(2);
        switch (random.nextInt(10)) {
            case 0 -> {
                int n = random.nextInt(20) == 0 ? some(1001) : random.nextInt(8);
                due("cast", x.cast(letter, n), y.cast(letter, n));
            }
            case 1 -> due("sorts", x.sorts(letter), y.sorts(letter));
            case 2 -> newPage();
            case 3, 4 -> due("set", x.set(page, hand), y.set(page, hand));
            case 5 -> due("misset", x.misset(page, place, letter), y.misset(page, place, letter));
            case 6 -> due("distribute", x.distribute(page), y.distribute(page));
            case 7 -> due("at", x.at(page, place, what), y.at(page, place, what));
            case 8 -> due("faults", x.faults(page), y.faults(page));
            default -> due("fault", x.fault(page, what), y.fault(page, what));
        }
    }

    private void formes() {
        int formes = 2 * y.count(2);
        int forme = some(formes);
        int skeleton = some(4);
        int hand = some(6);
        switch (random.nextInt(12)) {
            case 0 -> {
                if (random.nextInt(4) > 0) {
                    return;
                }
                int format = random.nextInt(10) == 0 ? some(5) : 1 + random.nextInt(3);
                int first = some(Math.max(1, y.count(0)));
                int copies = random.nextInt(20) == 0 ? some(61) : 1 + random.nextInt(6);
                due("sheet", x.sheet(format, first, copies), y.sheet(format, first, copies));
            }
            case 1 -> {
                int format = 1 + some(3);
                int column = some(4);
                int row = some(2);
                int side = some(2);
                int what = some(2);
                due("fold", x.fold(format, column, row, side, what), y.fold(format, column, row, side, what));
            }
            case 2, 3, 4 -> due("impose", x.impose(forme, skeleton), y.impose(forme, skeleton));
            case 5, 6 -> due("breakUp", x.breakUp(forme), y.breakUp(forme));
            case 7 -> {
                int n = 1 + some(60);
                due("paper", x.paper(n), y.paper(n));
            }
            default -> printAndCorrect(forme, hand);
        }
    }

    private void printAndCorrect(int forme, int hand) {
        int n = random.nextInt(4) == 0 ? 1 + some(60) : 1 + random.nextInt(2);
        due("print", x.print(forme, hand, n), y.print(forme, hand, n));
        int changes = random.nextInt(40) == 0 ? 34 : random.nextInt(3);
        for (int k = 0; k < changes; k++) {
            int page = some(y.count(0));
            int place = some(3);
            int letter = some(letters);
            due("misset", x.misset(page, place, letter), y.misset(page, place, letter));
        }
    }

    private void printed() {
        int sheet = some(y.count(2));
        int copy = some(6);
        int page = some(y.count(0));
        int other = some(6);
        switch (random.nextInt(9)) {
            case 0 -> {
                int forme = some(2 * y.count(2));
                int what = some(6);
                due("forme", x.forme(forme, what), y.forme(forme, what));
            }
            case 1 -> {
                int side = some(2);
                due("state", x.state(sheet, copy, side), y.state(sheet, copy, side));
            }
            case 2, 3 -> {
                for (int k = 0; k < 4; k++) {
                    int of = random.nextBoolean() ? page : 4 * sheet + k;
                    int place = some(4);
                    int want = y.read(sheet, copy, of, place);
                    tally[3] += want >= 0 ? 1 : 0;
                    due("read", x.read(sheet, copy, of, place), want);
                }
            }
            case 4 -> {
                if (random.nextInt(3) == 0) {
                    due("spoil", x.spoil(sheet, copy, other), y.spoil(sheet, copy, other));
                }
            }
            case 5 -> {
                int want = y.books();
                tally[1] += want > 0 ? 1 : 0;
                due("books", x.books(), want);
            }
            case 6 -> due("inBook", x.inBook(copy, sheet), y.inBook(copy, sheet));
            case 7 -> due("unlike", x.unlike(copy, other), y.unlike(copy, other));
            default -> {
                int want = y.kinds();
                tally[2] += want > 1 ? 1 : 0;
                due("kinds", x.kinds(), want);
            }
        }
    }

    private void rest() {
        int hand = some(6);
        int i = some(7);
        int what = some(2);
        switch (random.nextInt(11)) {
            case 0, 1 -> {
                int forme = some(12);
                int wear = -1 + some(11);
                due("seen", x.seen(hand, forme, wear), y.seen(hand, forme, wear));
            }
            case 2 -> {
                int set = random.nextInt(8) == 0 ? random.nextInt() : random.nextInt(4096);
                if (Integer.bitCount(set) < 6 || random.nextInt(8) == 0) {
                    due("order", x.order(set), y.order(set));
                }
            }
            case 3 -> due("ordered", x.ordered(i), y.ordered(i));
            case 4 -> due("rivals", x.rivals(), y.rivals());
            case 5 -> newLaw();
            case 6 -> {
                int want = y.wages(hand);
                tally[4] += want > 0 ? 1 : 0;
                due("wages", x.wages(hand), want);
            }
            case 7 -> {
                int of = some(4);
                due("did", x.did(hand, of), y.did(hand, of));
            }
            case 8 -> jobs();
            case 9 -> due("planned", x.planned(i, what), y.planned(i, what));
            default -> {
                int of = some(10);
                due("count", x.count(of), y.count(of));
            }
        }
    }

    private void newLaw() {
        String[] pieces = {"set", "fault", "print", "spoil", "=", "/", ";", "0", "1", "12", "9", "307", "x", " "};
        StringBuilder text = new StringBuilder();
        int clauses = 1 + random.nextInt(random.nextInt(5) == 0 ? 10 : 3);
        for (int k = 0; k < clauses; k++) {
            text.append(k == 0 ? "" : ";").append(pieces[random.nextInt(4)]).append('=');
            text.append(random.nextInt(random.nextBoolean() ? 12000 : 20));
            if (random.nextBoolean()) {
                text.append('/').append(random.nextInt(random.nextBoolean() ? 12000 : 20));
            }
        }
        if (random.nextInt(3) == 0) {
            text.insert(random.nextInt(text.length() + 1), pieces[random.nextInt(pieces.length)]);
        }
        if (random.nextInt(4) == 0) {
            text.setLength(random.nextInt(text.length()));
        }
        feed(text.toString());
        int want = y.law();
        tally[0] += want > 0 ? 1 : 0;
        due("law", x.law(), want);
    }

    private void jobs() {
        int span = random.nextBoolean() ? 4 : 51;
        int set = some(span);
        int print = some(span);
        int due = random.nextBoolean() ? some(501) : random.nextInt(60);
        if (manyJobs || y.count(7) < 5) {
            due("job", x.job(set, print, due), y.job(set, print, due));
        }
        if (random.nextInt(3) == 0) {
            due("plan", x.plan(), y.plan());
        }
    }
}
