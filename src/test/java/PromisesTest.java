/** Each promise of the document in turn: ordinary inputs, the edges that it names, wrong inputs. */
public final class PromisesTest {
    private static final int NONE = -1, BAD = -2, STATE = -3, FULL = -4, NO_SUCH = -5;
    private static final int[] WRONG = {-1, Integer.MIN_VALUE, Integer.MAX_VALUE};
    private static final Check c = new Check();

    public static void main(String[] args) {
        newObject();
        feed();
        cast();
        page();
        set();
        misset();
        missetInFormes();
        distribute();
        at();
        faults();
        sheet();
        fold();
        impose();
        breakUp();
        paper();
        print();
        printOtherSide();
        forme();
        stateAndRead();
        readAfterNewSetting();
        spoil();
        books();
        unlikeAndKinds();
        seen();
        order();
        law();
        lawFaults();
        wages();
        did();
        job();
        plan();
        count();
        c.end();
    }

    private static String times(String text, int n) {
        return text.repeat(n);
    }

    /** A case with plenty of a to e, and so many pages "ab", all SET by hand 0. */
    private static TypeHouse withPages(int pages) {
        TypeHouse x = new TypeHouse();
        for (int letter = 0; letter < 5; letter++) {
            x.cast(letter, 500);
        }
        for (int k = 0; k < pages; k++) {
            Check.page(x, "ab");
            x.set(k, 0);
        }
        return x;
    }

    private static void newObject() {
        c.part("1 new object");
        TypeHouse x = new TypeHouse();
        for (int letter = 0; letter < 26; letter++) {
            c.due("sorts", x.sorts(letter), 0);
        }
        for (int what = 0; what < 10; what++) {
            c.due("count", x.count(what), 0);
        }
        for (int hand = 0; hand < 6; hand++) {
            c.due("wages", x.wages(hand), 0);
            for (int what = 0; what < 4; what++) {
                c.due("did", x.did(hand, what), 0);
            }
        }
        c.due("books", x.books(), 0);
        c.due("kinds", x.kinds(), 0);
        c.due("ordered", x.ordered(0), NONE);
        c.due("rivals", x.rivals(), STATE);
        c.due("planned", x.planned(0, 0), NONE);
        c.due("forme", x.forme(0, 0), NO_SUCH);
        c.due("seen", x.seen(0, 0, -1), NONE);
    }

    private static void feed() {
        c.part("2 feed");
        TypeHouse x = new TypeHouse();
        for (int n : new int[] {0, -1, 9, Integer.MIN_VALUE, Integer.MAX_VALUE}) {
            c.due("feed", x.feed(97, n), BAD);
        }
        c.due("feed", x.feed(0x7a61L, 1), 1);
        c.due("feed", x.feed(0x6162636465666768L, 8), 9);
        c.due("page", x.page(), 0);
        c.due("lowest byte", x.at(0, 0, 0), 0);
        for (int k = 0; k < 8; k++) {
            c.due("highest first", x.at(0, 1 + k, 0), k);
        }
        c.due("high bytes count", x.feed(-1L, 8), 8);
        c.due("no byte of a copy", x.page(), -10);
        Check.feed(x, times("a", 296));
        c.due("count", x.count(6), 296);
        c.due("feed", x.feed(0, 5), FULL);
        c.due("BAD ahead of FULL", x.feed(0, 9), BAD);
        c.due("feed", x.feed(0x61616161L, 4), 300);
        c.due("feed", x.feed(97, 1), FULL);
        c.due("count", x.count(6), 300);
    }

    private static void cast() {
        c.part("3 cast, 4 sorts");
        TypeHouse x = new TypeHouse();
        for (int letter : new int[] {-1, 26, Integer.MIN_VALUE, Integer.MAX_VALUE}) {
            c.due("cast", x.cast(letter, 0), NONE);
            c.due("sorts", x.sorts(letter), NONE);
        }
        for (int n : new int[] {0, -5, 1001, Integer.MIN_VALUE, Integer.MAX_VALUE}) {
            c.due("cast", x.cast(25, n), BAD);
        }
        c.due("cast", x.cast(25, 1), 1);
        for (int k = 1; k < 5; k++) {
            c.due("cast", x.cast(25, 1000), 1000 * k + 1);
        }
        c.due("cast", x.cast(25, 1000), FULL);
        c.due("cast", x.cast(25, 999), 5000);
        c.due("cast", x.cast(25, 1), FULL);
        c.due("BAD ahead of FULL", x.cast(25, 1001), BAD);
        c.due("sorts", x.sorts(25), 5000);
        c.due("sorts", x.sorts(24), 0);
    }

    private static void page() {
        c.part("5 page");
        TypeHouse x = new TypeHouse();
        c.due("page", x.page(), BAD);
        c.due("page", Check.page(x, "A"), -10);
        c.due("tape", x.count(6), 0);
        c.due("page", Check.page(x, "ab\n `"), -14);
        c.due("page", Check.page(x, "az{"), -12);
        c.due("page", Check.page(x, "\t"), -10);
        c.due("page", Check.page(x, times("a", 121)), -130);
        c.due("page", Check.page(x, times("a", 300)), -130);
        c.due("page", Check.page(x, times("a", 120) + "!"), -130);
        c.due("page", Check.page(x, times("a", 119) + "!a"), -129);
        c.due("page", x.page(), BAD);
        c.due("page", Check.page(x, times("a", 120)), 0);
        c.due("tape", x.count(6), 0);
        for (int k = 1; k < 48; k++) {
            c.due("page", Check.page(x, k % 2 == 0 ? " " : "\n"), k);
        }
        c.due("BAD ahead of FULL", x.page(), BAD);
        c.due("page", Check.page(x, "ab"), FULL);
        c.due("tape stays", x.count(6), 2);
        c.due("no page behind the last", x.set(48, 0), NONE);
        c.due("no page behind the last", x.at(48, 0, 0), NONE);
        c.due("count", x.count(0), 48);
    }

    private static void set() {
        c.part("6 set");
        TypeHouse x = new TypeHouse();
        Check.page(x, "cab b\n");
        Check.page(x, " \n ");
        for (int wrong : WRONG) {
            c.due("set", x.set(wrong, 0), NONE);
            c.due("set", x.set(0, wrong), NONE);
        }
        c.due("set", x.set(2, 0), NONE);
        c.due("set", x.set(0, 6), NONE);
        c.due("set", x.set(0, 0), -10);
        x.cast(0, 1);
        x.cast(1, 1);
        c.due("one b is not enough", x.set(0, 0), -11);
        x.cast(1, 1);
        c.due("set", x.set(0, 0), -12);
        c.due("nothing was taken", x.sorts(0), 1);
        c.due("nothing was done", x.did(0, 0), 0);
        x.cast(2, 5);
        c.due("set", x.set(0, 5), 4);
        c.due("sorts", x.sorts(0), 0);
        c.due("sorts", x.sorts(1), 0);
        c.due("sorts", x.sorts(2), 4);
        c.due("set", x.set(0, 5), STATE);
        c.due("NONE ahead of STATE", x.set(0, 6), NONE);
        c.due("no letters", x.set(1, 0), 0);
        c.due("no letters", x.set(1, 0), STATE);
        c.due("did", x.did(5, 0), 4);
        c.due("count", x.count(1), 2);
        c.due("count", x.count(9), 4);
    }

    private static void misset() {
        c.part("7 misset");
        TypeHouse x = new TypeHouse();
        x.cast(0, 1);
        x.cast(1, 1);
        Check.page(x, "a \n");
        for (int wrong : WRONG) {
            c.due("misset", x.misset(wrong, 0, 1), NONE);
            c.due("misset", x.misset(0, wrong, 1), NONE);
            c.due("misset", x.misset(0, 0, wrong), NONE);
        }
        c.due("misset", x.misset(1, 0, 1), NONE);
        c.due("misset", x.misset(0, 3, 1), NONE);
        c.due("misset", x.misset(0, 0, 26), NONE);
        c.due("misset", x.misset(0, 0, 1), STATE);
        c.due("STATE is told ahead of BAD", x.misset(0, 1, 1), STATE);
        x.set(0, 0);
        c.due("misset", x.misset(0, 0, 0), BAD);
        c.due("misset", x.misset(0, 1, 1), BAD);
        c.due("misset", x.misset(0, 2, 1), BAD);
        c.due("misset", x.misset(0, 0, 2), FULL);
        c.due("BAD ahead of FULL", x.misset(0, 1, 2), BAD);
        c.due("sorts", x.sorts(0), 0);
        c.due("misset", x.misset(0, 0, 1), 0);
        c.due("sorts", x.sorts(0), 1);
        c.due("sorts", x.sorts(1), 0);
        c.due("misset", x.misset(0, 0, 1), BAD);
        c.due("back to the copy", x.misset(0, 0, 0), 1);
        c.due("faults", x.faults(0), 0);
    }

    private static void missetInFormes() {
        c.part("7 misset in a forme");
        TypeHouse x = withPages(4);
        x.sheet(1, 0, 2);
        x.impose(0, 0);
        for (int k = 0; k < 40; k++) {
            c.due("ahead of the first impression", x.misset(0, 0, k % 2 == 0 ? 2 : 0), k % 2 == 0 ? 0 : 2);
        }
        c.due("forme", x.forme(0, 3), 0);
        x.paper(60);
        x.print(0, 0, 1);
        for (int k = 0; k < 30; k++) {
            c.due("misset", x.misset(0, 0, k % 2 == 0 ? 2 : 0), k % 2 == 0 ? 0 : 2);
        }
        c.due("forme", x.forme(0, 3), 30);
        c.due("misset", x.misset(0, 0, 2), FULL);
        c.due("another page of it", x.misset(3, 0, 2), FULL);
        c.due("a page of the other side", x.misset(1, 0, 2), 0);
        x.print(0, 0, 1);
        c.due("misset", x.misset(0, 0, 2), FULL);
        x.breakUp(0);
        c.due("in no forme", x.misset(0, 0, 2), 0);
        c.due("forme", x.forme(0, 3), 30);
    }

    private static void distribute() {
        c.part("8 distribute");
        TypeHouse x = withPages(4);
        x.sheet(1, 0, 2);
        for (int wrong : WRONG) {
            c.due("distribute", x.distribute(wrong), NONE);
        }
        c.due("distribute", x.distribute(4), NONE);
        x.misset(0, 0, 2);
        c.due("sorts", x.sorts(0), 497);
        c.due("distribute", x.distribute(0), 2);
        c.due("sorts", x.sorts(0), 497);
        c.due("sorts", x.sorts(1), 497);
        c.due("sorts", x.sorts(2), 500);
        c.due("distribute", x.distribute(0), STATE);
        c.due("set anew, as the copy", x.set(0, 1), 2);
        c.due("at", x.at(0, 0, 1), 0);
        x.impose(0, 0);
        c.due("in a forme", x.distribute(0), STATE);
        c.due("of the other side", x.distribute(1), 2);
        x.breakUp(0);
        c.due("distribute", x.distribute(0), 2);

        TypeHouse y = new TypeHouse();
        y.cast(0, 1);
        Check.page(y, "a");
        y.set(0, 0);
        for (int k = 0; k < 5; k++) {
            y.cast(0, 1000);
        }
        c.due("distribute", y.distribute(0), 1);
        c.due("no refusal is told for a full case", y.sorts(0), 5001);
        c.due("cast", y.cast(0, 1), FULL);
    }

    private static void at() {
        c.part("9 at");
        TypeHouse x = new TypeHouse();
        x.cast(0, 9);
        x.cast(25, 9);
        Check.page(x, "az \n");
        for (int wrong : WRONG) {
            c.due("at", x.at(wrong, 0, 0), NONE);
            c.due("at", x.at(0, wrong, 0), NONE);
            c.due("at", x.at(0, 0, wrong), NONE);
        }
        c.due("at", x.at(1, 0, 0), NONE);
        c.due("at", x.at(0, 4, 0), NONE);
        c.due("NONE ahead of STATE", x.at(0, 4, 1), NONE);
        c.due("at", x.at(0, 0, 2), NONE);
        c.due("at", x.at(0, 0, 1), STATE);
        int[] codes = {0, 25, 32, 33};
        for (int k = 0; k < 4; k++) {
            c.due("at", x.at(0, k, 0), codes[k]);
        }
        x.set(0, 0);
        x.misset(0, 0, 25);
        c.due("at", x.at(0, 0, 0), 0);
        c.due("at", x.at(0, 0, 1), 25);
        c.due("at", x.at(0, 2, 1), 32);
        c.due("at", x.at(0, 3, 1), 33);
    }

    private static void faults() {
        c.part("10 faults, 11 fault");
        TypeHouse x = withPages(0);
        Check.page(x, "ab ab");
        for (int wrong : WRONG) {
            c.due("faults", x.faults(wrong), NONE);
            c.due("fault", x.fault(wrong, 0), NONE);
            c.due("STATE ahead of no such i", x.fault(0, wrong), STATE);
        }
        c.due("faults", x.faults(1), NONE);
        c.due("faults", x.faults(0), STATE);
        x.set(0, 0);
        c.due("faults", x.faults(0), 0);
        c.due("fault", x.fault(0, 0), NONE);
        x.misset(0, 4, 3);
        x.misset(0, 1, 3);
        c.due("faults", x.faults(0), 2);
        c.due("fault", x.fault(0, 0), 1);
        c.due("fault", x.fault(0, 1), 4);
        c.due("fault", x.fault(0, 2), NONE);
        for (int wrong : WRONG) {
            c.due("fault", x.fault(0, wrong), NONE);
        }
    }

    private static void sheet() {
        c.part("12 sheet");
        TypeHouse x = new TypeHouse();
        for (int k = 0; k < 48; k++) {
            Check.page(x, "a");
        }
        for (int format : new int[] {0, 4, -1, Integer.MIN_VALUE, Integer.MAX_VALUE}) {
            c.due("BAD ahead of NONE", x.sheet(format, 99, 1), BAD);
        }
        for (int copies : new int[] {0, 61, -1, Integer.MIN_VALUE, Integer.MAX_VALUE}) {
            c.due("BAD ahead of NONE", x.sheet(1, 99, copies), BAD);
        }
        c.due("sheet", x.sheet(1, 45, 1), NONE);
        c.due("sheet", x.sheet(2, 41, 1), NONE);
        c.due("sheet", x.sheet(3, 33, 1), NONE);
        for (int wrong : WRONG) {
            c.due("sheet", x.sheet(3, wrong, 1), NONE);
        }
        c.due("pages need not be SET", x.sheet(3, 32, 60), 0);
        c.due("sheet", x.sheet(1, 31, 1), STATE);
        c.due("sheet", x.sheet(1, 29, 1), STATE);
        c.due("sheet", x.sheet(1, 47, 1), NONE);
        c.due("sheet", x.sheet(1, 28, 1), 1);
        for (int k = 2; k < 6; k++) {
            c.due("sheet", x.sheet(1, 4 * k, 1), k);
        }
        c.due("sheet", x.sheet(1, 0, 1), FULL);
        c.due("STATE ahead of FULL", x.sheet(1, 44, 1), STATE);
        c.due("NONE ahead of FULL", x.sheet(1, 45, 1), NONE);
        c.due("BAD ahead of FULL", x.sheet(1, 0, 0), BAD);
        c.due("count", x.count(2), 6);
        c.due("no sheet behind the last", x.state(6, 0, 0), NONE);
        c.due("no forme behind the last", x.impose(12, 0), NONE);
    }

    private static void fold() {
        c.part("13 fold");
        TypeHouse x = new TypeHouse();
        for (int format : new int[] {0, 4, -1, Integer.MIN_VALUE, Integer.MAX_VALUE}) {
            c.due("BAD ahead of NONE", x.fold(format, -1, 0, 0, 0), BAD);
        }
        // by format, then row and column, then side: worked by hand with a folded sheet of paper
        int[][] due = {
            {3, 2, 0, 1},
            {7, 6, 0, 1, 4, 5, 3, 2},
            {15, 14, 0, 1, 3, 2, 12, 13, 8, 9, 7, 6, 4, 5, 11, 10}};
        int[] columns = {2, 2, 4};
        int[] rows = {1, 2, 2};
        for (int format = 1; format <= 3; format++) {
            foldOf(x, format, columns[format - 1], rows[format - 1], due[format - 1]);
        }
    }

    private static void foldOf(TypeHouse x, int format, int columns, int rows, int[] due) {
        boolean[] found = new boolean[due.length];
        for (int row = 0; row < rows; row++) {
            for (int column = 0; column < columns; column++) {
                for (int side = 0; side < 2; side++) {
                    int page = x.fold(format, column, row, side, 0);
                    if (page >= 0 && page < found.length) {
                        found[page] = true;
                    }
                    c.due("fold", page, due[2 * (row * columns + column) + side]);
                    c.due("turned", x.fold(format, column, row, side, 1), row);
                }
            }
        }
        for (boolean is : found) {
            c.due("every page is on a face", is ? 1 : 0, 1);
        }
        c.due("fold", x.fold(format, columns, 0, 0, 0), NONE);
        c.due("fold", x.fold(format, 0, rows, 0, 0), NONE);
        c.due("fold", x.fold(format, 0, 0, 2, 0), NONE);
        c.due("fold", x.fold(format, 0, 0, 0, 2), NONE);
        for (int wrong : WRONG) {
            c.due("fold", x.fold(format, wrong, 0, 0, 0), NONE);
            c.due("fold", x.fold(format, 0, wrong, 0, 0), NONE);
            c.due("fold", x.fold(format, 0, 0, wrong, 0), NONE);
            c.due("fold", x.fold(format, 0, 0, 0, wrong), NONE);
        }
    }

    private static void impose() {
        c.part("14 impose");
        TypeHouse x = withPages(28);
        c.due("no sheet", x.impose(0, 0), NONE);
        x.sheet(1, 0, 2);
        x.sheet(2, 4, 2);
        x.sheet(3, 12, 2);
        for (int wrong : WRONG) {
            c.due("impose", x.impose(wrong, 0), NONE);
            c.due("impose", x.impose(0, wrong), NONE);
        }
        c.due("impose", x.impose(6, 0), NONE);
        c.due("impose", x.impose(0, 4), NONE);
        x.distribute(3);
        c.due("page 3 is on the outer side", x.impose(0, 0), STATE);
        c.due("impose", x.impose(1, 0), 2);
        x.set(3, 0);
        c.due("skeleton is taken", x.impose(0, 0), STATE);
        c.due("impose", x.impose(0, 3), 2);
        c.due("is imposed", x.impose(0, 1), STATE);
        c.due("NONE ahead of STATE", x.impose(0, 4), NONE);
        c.due("impose", x.impose(2, 1), 4);
        c.due("impose", x.impose(5, 2), 8);
        c.due("count", x.count(8), 4);
        x.breakUp(0);
        c.due("again, nothing was printed", x.impose(0, 3), 2);
        x.paper(2);
        x.print(0, 0, 2);
        x.breakUp(0);
        c.due("was printed", x.impose(0, 3), STATE);
        c.due("skeleton is free", x.impose(3, 3), 4);
    }

    private static void breakUp() {
        c.part("15 breakUp");
        TypeHouse x = withPages(4);
        x.sheet(1, 0, 2);
        for (int wrong : WRONG) {
            c.due("breakUp", x.breakUp(wrong), NONE);
        }
        c.due("breakUp", x.breakUp(2), NONE);
        c.due("breakUp", x.breakUp(0), STATE);
        x.impose(0, 3);
        c.due("no impression", x.breakUp(0), 3);
        c.due("breakUp", x.breakUp(0), STATE);
        x.impose(0, 2);
        x.paper(2);
        x.print(0, 0, 1);
        c.due("some", x.breakUp(0), STATE);
        x.print(0, 0, 1);
        c.due("all", x.breakUp(0), 2);
        c.due("forme", x.forme(0, 0), 0);
        c.due("forme", x.forme(0, 1), NONE);
        c.due("count", x.count(8), 0);
    }

    private static void paper() {
        c.part("16 paper");
        TypeHouse x = new TypeHouse();
        for (int n : new int[] {0, -1, 61, Integer.MIN_VALUE, Integer.MAX_VALUE}) {
            c.due("paper", x.paper(n), BAD);
        }
        for (int k = 1; k <= 166; k++) {
            c.due("paper", x.paper(60), 60 * k);
        }
        c.due("paper", x.paper(41), FULL);
        c.due("BAD ahead of FULL", x.paper(61), BAD);
        c.due("paper", x.paper(40), 10000);
        c.due("paper", x.paper(1), FULL);
        c.due("count", x.count(3), 10000);
    }

    private static void print() {
        c.part("17 print");
        TypeHouse x = withPages(4);
        x.sheet(1, 0, 5);
        x.paper(1);
        for (int wrong : WRONG) {
            c.due("print", x.print(wrong, 0, 1), NONE);
            c.due("print", x.print(0, wrong, 1), NONE);
            c.due("NONE ahead of BAD", x.print(wrong, 0, 0), NONE);
        }
        c.due("print", x.print(2, 0, 1), NONE);
        c.due("print", x.print(0, 6, 1), NONE);
        for (int n : new int[] {0, -1, 61, Integer.MIN_VALUE, Integer.MAX_VALUE}) {
            c.due("BAD ahead of STATE", x.print(0, 0, n), BAD);
        }
        c.due("not imposed", x.print(0, 0, 1), STATE);
        x.impose(0, 0);
        x.impose(1, 1);
        c.due("paper ends it", x.print(0, 3, 4), 1);
        c.due("paper is out", x.print(0, 3, 4), STATE);
        c.due("the first side has not all", x.print(1, 3, 1), STATE);
        x.paper(20);
        c.due("as asked", x.print(0, 3, 3), 3);
        c.due("the first side has not all", x.print(1, 3, 1), STATE);
        c.due("as are left", x.print(0, 4, 60), 1);
        c.due("has all", x.print(0, 3, 1), STATE);
        c.due("paper", x.count(3), 16);
        c.due("the other side", x.print(1, 5, 60), 5);
        c.due("takes no paper", x.count(3), 16);
        c.due("has all", x.print(1, 3, 1), STATE);
        c.due("did", x.did(3, 1), 4);
        c.due("did", x.did(4, 1), 1);
        c.due("did", x.did(5, 1), 5);
        c.due("count", x.count(4), 10);
    }

    private static void printOtherSide() {
        c.part("17 print, inner side first");
        TypeHouse x = withPages(4);
        x.sheet(1, 0, 3);
        x.impose(0, 0);
        x.impose(1, 1);
        x.paper(3);
        c.due("print", x.print(1, 0, 1), 1);
        c.due("state", x.state(0, 0, 1), 0);
        c.due("state", x.state(0, 1, 1), NONE);
        c.due("print", x.print(0, 0, 1), STATE);
        c.due("print", x.print(1, 0, 2), 2);
        c.due("needs no paper", x.print(0, 0, 1), 1);
        c.due("the heap was turned", x.state(0, 2, 0), 0);
        c.due("state", x.state(0, 0, 0), NONE);
        c.due("first", x.forme(1, 5), 1);
        c.due("first", x.forme(0, 5), 0);
    }

    private static void forme() {
        c.part("18 forme");
        TypeHouse x = withPages(4);
        c.due("no sheet", x.forme(0, 0), NO_SUCH);
        x.sheet(1, 0, 3);
        for (int wrong : WRONG) {
            c.due("forme", x.forme(wrong, 0), NO_SUCH);
            c.due("forme", x.forme(0, wrong), NO_SUCH);
        }
        c.due("forme", x.forme(2, 0), NO_SUCH);
        c.due("forme", x.forme(0, 6), NO_SUCH);
        formeDue(x, 0, 0, NONE, 0, 0, 0, 0);
        x.impose(0, 3);
        x.misset(0, 0, 2);
        formeDue(x, 0, 1, 3, 0, 0, 0, 0);
        x.paper(9);
        x.print(0, 0, 1);
        formeDue(x, 0, 1, 3, 1, 0, 1, 1);
        x.misset(0, 0, 0);
        x.misset(0, 0, 3);
        formeDue(x, 0, 1, 3, 1, 2, 1, 1);
        x.print(0, 0, 1);
        formeDue(x, 0, 1, 3, 2, 2, 2, 1);
        x.print(0, 0, 1);
        formeDue(x, 0, 1, 3, 3, 2, 2, 1);
        x.misset(0, 0, 0);
        x.breakUp(0);
        x.misset(0, 0, 3);
        formeDue(x, 0, 0, NONE, 3, 3, 2, 1);
        formeDue(x, 1, 0, NONE, 0, 0, 0, 0);
    }

    private static void formeDue(TypeHouse x, int forme, int... due) {
        for (int what = 0; what < due.length; what++) {
            c.due("forme " + forme + " what " + what, x.forme(forme, what), due[what]);
        }
    }

    private static void stateAndRead() {
        c.part("19 state, 20 read");
        TypeHouse x = withPages(9);
        x.sheet(1, 4, 4);
        for (int wrong : WRONG) {
            c.due("state", x.state(wrong, 0, 0), NONE);
            c.due("state", x.state(0, wrong, 0), NONE);
            c.due("state", x.state(0, 0, wrong), NONE);
            c.due("read", x.read(wrong, 0, 4, 0), NONE);
            c.due("read", x.read(0, wrong, 4, 0), NONE);
            c.due("read", x.read(0, 0, wrong, 0), NONE);
        }
        c.due("not printed", x.state(0, 0, 0), NONE);
        c.due("not printed", x.read(0, 0, 4, 0), NONE);
        x.impose(0, 0);
        x.impose(1, 1);
        x.paper(9);
        x.misset(4, 0, 2);
        x.print(0, 0, 1);
        x.misset(4, 0, 3);
        x.misset(7, 1, 4);
        x.print(0, 0, 2);
        x.misset(4, 0, 0);
        x.print(0, 0, 1);
        x.print(1, 0, 1);
        x.misset(5, 1, 2);
        x.print(1, 0, 1);
        int[] outer = {0, 2, 2, 3};
        int[] inner = {NONE, NONE, 1, 0};
        int[] first = {2, 3, 3, 0};
        int[] last = {1, 4, 4, 4};
        int[] second = {NONE, NONE, 2, 1};
        for (int copy = 0; copy < 4; copy++) {
            c.due("state", x.state(0, copy, 0), outer[copy]);
            c.due("state", x.state(0, copy, 1), inner[copy]);
            c.due("read", x.read(0, copy, 4, 0), first[copy]);
            c.due("read", x.read(0, copy, 7, 1), last[copy]);
            c.due("read", x.read(0, copy, 5, 1), second[copy]);
            c.due("not of that sheet", x.read(0, copy, 3, 0), NONE);
            c.due("not of that sheet", x.read(0, copy, 8, 0), NONE);
        }
        for (int wrong : WRONG) {
            c.due("no such place", x.read(0, 0, 4, wrong), NONE);
        }
        c.due("no such place", x.read(0, 0, 4, 2), NONE);
        c.due("no such copy", x.read(0, 4, 4, 0), NONE);
        c.due("no such copy", x.state(0, 4, 0), NONE);
        c.due("no such sheet", x.state(1, 0, 0), NONE);
        c.due("no such side", x.state(0, 0, 2), NONE);
    }

    private static void readAfterNewSetting() {
        c.part("20 read, what was set then");
        TypeHouse x = new TypeHouse();
        x.cast(0, 50);
        x.cast(1, 50);
        for (int k = 0; k < 4; k++) {
            Check.page(x, "a \nb");
            x.set(k, 0);
        }
        x.sheet(1, 0, 1);
        x.impose(0, 0);
        x.misset(0, 0, 1);
        x.paper(1);
        x.print(0, 0, 1);
        x.breakUp(0);
        x.misset(0, 3, 0);
        c.due("read", x.read(0, 0, 0, 3), 1);
        x.distribute(0);
        x.set(0, 1);
        c.due("at", x.at(0, 0, 1), 0);
        c.due("read", x.read(0, 0, 0, 0), 1);
        c.due("a blank", x.read(0, 0, 0, 1), 32);
        c.due("a line end", x.read(0, 0, 0, 2), 33);
    }

    private static void spoil() {
        c.part("21 spoil");
        TypeHouse x = withPages(8);
        x.sheet(1, 0, 3);
        x.sheet(1, 4, 3);
        c.due("nothing is printed on it", x.spoil(0, 0, 0), STATE);
        x.impose(0, 0);
        x.impose(1, 1);
        x.paper(9);
        x.print(0, 0, 2);
        for (int wrong : WRONG) {
            c.due("spoil", x.spoil(wrong, 0, 0), NONE);
            c.due("spoil", x.spoil(0, wrong, 0), NONE);
            c.due("spoil", x.spoil(0, 0, wrong), NONE);
        }
        c.due("spoil", x.spoil(2, 0, 0), NONE);
        c.due("spoil", x.spoil(0, 3, 0), NONE);
        c.due("spoil", x.spoil(0, 0, 6), NONE);
        c.due("spoil", x.spoil(0, 1, 5), 1);
        c.due("is spoilt", x.spoil(0, 1, 5), STATE);
        c.due("NONE ahead of STATE", x.spoil(0, 1, 6), NONE);
        c.due("nothing is printed on it", x.spoil(0, 2, 5), STATE);
        c.due("spoil", x.spoil(0, 0, 2), 2);
        c.due("spoilt ones stay in the heap", x.print(0, 0, 60), 1);
        c.due("spoil", x.spoil(0, 2, 2), 3);
        c.due("did", x.did(5, 2), 1);
        c.due("did", x.did(2, 2), 2);
        c.due("count", x.count(5), 3);
        c.due("still printed", x.print(1, 0, 60), 3);
        c.due("state", x.state(0, 1, 1), 0);
    }

    /** Two sheets of 4 and 3 copies, all sides printed; state 1 from copy 2 on of sheet 0, on its outer side. */
    private static TypeHouse withBooks() {
        TypeHouse x = withPages(8);
        x.paper(60);
        x.sheet(1, 0, 4);
        x.impose(0, 0);
        x.print(0, 0, 2);
        x.misset(0, 0, 2);
        x.print(0, 0, 2);
        x.impose(1, 1);
        x.print(1, 0, 4);
        x.sheet(1, 4, 3);
        x.impose(2, 2);
        x.impose(3, 3);
        x.print(3, 0, 3);
        x.print(2, 0, 1);
        x.misset(4, 0, 2);
        x.print(2, 0, 2);
        return x;
    }

    private static void books() {
        c.part("22 books, 23 inBook");
        TypeHouse x = withBooks();
        c.due("books", x.books(), 3);
        for (int wrong : WRONG) {
            c.due("inBook", x.inBook(wrong, 0), NONE);
            c.due("inBook", x.inBook(0, wrong), NONE);
        }
        c.due("inBook", x.inBook(0, 2), NONE);
        c.due("inBook", x.inBook(2, 0), 2);
        c.due("not of all sheets", x.inBook(3, 0), NONE);
        x.spoil(0, 1, 0);
        c.due("books", x.books(), 3);
        c.due("inBook", x.inBook(0, 0), 0);
        c.due("inBook", x.inBook(1, 0), 2);
        c.due("inBook", x.inBook(2, 0), 3);
        c.due("inBook", x.inBook(2, 1), 2);
        x.spoil(1, 0, 0);
        c.due("books", x.books(), 2);
        c.due("inBook", x.inBook(0, 1), 1);
        Check.page(x, "a");
        Check.page(x, "a");
        Check.page(x, "a");
        Check.page(x, "a");
        x.sheet(1, 8, 3);
        c.due("a sheet that is not printed", x.books(), 0);
        c.due("inBook", x.inBook(0, 0), NONE);
        c.due("kinds", x.kinds(), 0);
        c.due("unlike", x.unlike(0, 0), NONE);
    }

    private static void unlikeAndKinds() {
        c.part("24 unlike, 25 kinds");
        TypeHouse x = withBooks();
        // book 0: states 0 and, from below, 1; book 1: 0 and 1; book 2: 1 and 0
        for (int wrong : WRONG) {
            c.due("unlike", x.unlike(wrong, 0), NONE);
            c.due("unlike", x.unlike(0, wrong), NONE);
        }
        c.due("unlike", x.unlike(3, 0), NONE);
        c.due("unlike", x.unlike(0, 3), NONE);
        c.due("unlike", x.unlike(1, 1), 0);
        c.due("unlike", x.unlike(0, 1), 0);
        c.due("unlike", x.unlike(0, 2), 2);
        c.due("unlike", x.unlike(2, 1), 2);
        c.due("kinds", x.kinds(), 2);
        x.spoil(0, 0, 0);
        c.due("unlike", x.unlike(0, 1), 1);
        c.due("unlike", x.unlike(1, 2), 1);
        c.due("kinds", x.kinds(), 3);
    }

    private static void seen() {
        c.part("26 seen");
        TypeHouse x = new TypeHouse();
        for (int wrong : WRONG) {
            c.due("seen", x.seen(wrong, 0, 0), NO_SUCH);
            c.due("seen", x.seen(0, wrong, 0), NO_SUCH);
        }
        c.due("seen", x.seen(6, 0, 0), NO_SUCH);
        c.due("seen", x.seen(0, 12, 0), NO_SUCH);
        c.due("ahead of BAD", x.seen(6, 0, 10), NO_SUCH);
        for (int wear : new int[] {-2, 10, Integer.MIN_VALUE, Integer.MAX_VALUE}) {
            c.due("seen", x.seen(0, 0, wear), BAD);
        }
        c.due("seen", x.seen(5, 11, 9), NONE);
        c.due("seen", x.seen(5, 11, 0), 9);
        c.due("seen", x.seen(5, 11, -1), 0);
        c.due("seen", x.seen(5, 11, 3), NONE);
        c.due("seen", x.seen(5, 10, 3), NONE);
    }

    private static void order() {
        c.part("27 order, 28 ordered, 29 rivals");
        TypeHouse x = new TypeHouse();
        for (int set : new int[] {0, 1 << 12, 4097, -1, 255, 4095, Integer.MIN_VALUE, Integer.MAX_VALUE}) {
            c.due("order", x.order(set), BAD);
        }
        c.due("rivals", x.rivals(), STATE);
        c.due("order", x.order(1 << 11), 0);
        c.due("ordered", x.ordered(0), 11);
        c.due("ordered", x.ordered(1), NONE);
        c.due("rivals", x.rivals(), 1);
        c.due("nothing seen", x.order(127 << 5), 0);
        c.due("rivals", x.rivals(), 5040);
        for (int i = 0; i < 7; i++) {
            c.due("ordered", x.ordered(i), 5 + i);
        }
        for (int wrong : WRONG) {
            c.due("ordered", x.ordered(wrong), NONE);
        }
        c.due("ordered", x.ordered(7), NONE);
        // a ring that no order can please: 0 ahead of 1 ahead of 2 ahead of 0
        x.seen(0, 0, 1);
        x.seen(0, 1, 2);
        x.seen(1, 1, 1);
        x.seen(1, 2, 2);
        x.seen(2, 2, 1);
        x.seen(2, 0, 2);
        c.due("order", x.order(7), 1);
        c.due("rivals", x.rivals(), 3);
        c.due("ordered", x.ordered(0), 0);
        c.due("ordered", x.ordered(1), 1);
        c.due("ordered", x.ordered(2), 2);
        x.seen(0, 0, 2);
        c.due("the latest stays", x.rivals(), 3);
        c.due("a refusal changes nothing", x.order(0), BAD);
        c.due("ordered", x.ordered(2), 2);
        c.due("equal wear is no quarrel", x.order(3), 0);
        c.due("rivals", x.rivals(), 2);
        c.due("ordered", x.ordered(2), NONE);
        x.seen(0, 0, 0);
        x.seen(0, 1, -1);
        c.due("not seen is no quarrel", x.order(3), 0);
        c.due("rivals", x.rivals(), 2);
        for (int letter = 0; letter < 6; letter++) {
            x.seen(letter, 3, 9);
            x.seen(letter, 4, 0);
        }
        c.due("order", x.order(24), 0);
        c.due("ordered", x.ordered(0), 4);
        x.seen(0, 3, 0);
        x.seen(0, 4, 9);
        c.due("order", x.order(24), 1);
        c.due("ordered", x.ordered(0), 4);
    }

    private static void law() {
        c.part("30 law");
        TypeHouse x = new TypeHouse();
        c.due("law", Check.law(x, "set=1"), 1);
        c.due("tape", x.count(6), 0);
        c.due("law", Check.law(x, "set=0"), 1);
        c.due("law", Check.law(x, "set=9999/9999;fault=1/1;print=10/100;spoil=7"), 4);
        c.due("law", Check.law(x, "set=1;set=2;set=3;set=4;set=5;set=6;set=7;set=8"), 8);
        x.cast(0, 10);
        Check.page(x, "aaa");
        x.set(0, 0);
        c.due("the last clause counts", x.wages(0), 24);
        c.due("law", Check.law(x, "set=5;"), -16);
        c.due("the one ahead stays", x.wages(0), 24);
        c.due("tape", x.count(6), 0);
        c.due("a second number of its own", Check.law(x, "set=7/2;set=3"), 2);
        c.due("wages", x.wages(0), 9);
        c.due("a word without one is 0", Check.law(x, "print=3"), 1);
        c.due("wages", x.wages(0), 0);
    }

    private static void lawFaults() {
        c.part("30 law, faults");
        TypeHouse x = new TypeHouse();
        c.due("no clause at all", x.law(), -10);
        String eight = times("set=1;", 7) + "set=1";
        String[] texts = {
            "x", "s", "sx", "sex", "spx", "set", "set:", "set=", "set=x", "set=01", "set=00", "set=12345",
            "set=1/", "set=1/0", "set=1/01", "set=1/12345", "set=1/2/3", "set=1;", "set=1;;", "set=1 ", " set=1",
            "set =1", "set=-1", "Set=1", "faulty=1", "fault=1;prin=2", "setting=1", "set=1,print=2", "spoilt=1",
            eight + ";", eight + ";set=1", eight + "1111", "set=1\n", "pset=1", "fet=1", "set=/2"};
        int[] faults = {
            0, 1, 1, 2, 2, 3, 3, 4, 4, 5, 5, 8,
            6, 6, 6, 10, 7, 6, 6, 5, 0,
            3, 4, 0, 5, 12, 3, 5, 5,
            47, 47, 50, 5, 1, 1, 4};
        for (int k = 0; k < texts.length; k++) {
            c.due("law " + texts[k], Check.law(x, texts[k]), -10 - faults[k]);
            c.due("tape", x.count(6), 0);
        }
        c.due("a byte above 127", x.feed(0xffL, 1), 1);
        c.due("law", x.law(), -10);
    }

    private static void wages() {
        c.part("31 wages");
        TypeHouse x = withPages(4);
        for (int wrong : WRONG) {
            c.due("wages", x.wages(wrong), NONE);
        }
        c.due("wages", x.wages(6), NONE);
        c.due("no law", x.wages(0), 0);
        x.sheet(1, 0, 5);
        x.paper(9);
        x.impose(0, 0);
        x.print(0, 0, 5);
        x.misset(0, 0, 2);
        x.misset(1, 0, 2);
        x.misset(1, 1, 2);
        x.spoil(0, 1, 0);
        x.spoil(0, 2, 0);
        // hand 0: 8 letters, 5 impressions, 3 faults, 2 spoilt
        c.due("law", Check.law(x, "set=7/3;print=7/2;fault=3/2;spoil=5/3"), 4);
        c.due("each is cut for itself", x.wages(0), 18 + 17 - 4 - 3);
        Check.law(x, "set=1;fault=3");
        c.due("wages", x.wages(0), 0);
        x.misset(0, 0, 0);
        c.due("faults now", x.wages(0), 2);
        x.distribute(1);
        c.due("faults of pages now set", x.wages(0), 8);
        x.set(1, 1);
        x.misset(1, 0, 2);
        c.due("0 at least", x.wages(1), 0);
        Check.law(x, "fault=1");
        c.due("0 at least", x.wages(1), 0);
        Check.law(x, "print=9999");
        c.due("wages", x.wages(0), 49995);
        Check.law(x, "print=100;spoil=30");
        c.due("wages", x.wages(0), 440);
    }

    private static void did() {
        c.part("32 did");
        TypeHouse x = withPages(4);
        for (int wrong : WRONG) {
            c.due("did", x.did(wrong, 0), NONE);
            c.due("did", x.did(0, wrong), NONE);
        }
        c.due("did", x.did(6, 0), NONE);
        c.due("did", x.did(0, 4), NONE);
        c.due("did", x.did(0, 0), 8);
        x.distribute(0);
        c.due("in all", x.did(0, 0), 8);
        x.set(0, 5);
        c.due("did", x.did(5, 0), 2);
        x.misset(0, 0, 2);
        x.misset(1, 0, 2);
        c.due("did", x.did(5, 3), 1);
        c.due("did", x.did(0, 3), 1);
        x.distribute(0);
        c.due("did", x.did(5, 3), 0);
        c.due("did", x.did(5, 1), 0);
        c.due("did", x.did(5, 2), 0);
    }

    private static void job() {
        c.part("33 job");
        TypeHouse x = new TypeHouse();
        for (int wrong : new int[] {-1, 501, Integer.MIN_VALUE, Integer.MAX_VALUE}) {
            c.due("job", x.job(wrong, 0, 0), BAD);
            c.due("job", x.job(0, wrong, 0), BAD);
            c.due("job", x.job(0, 0, wrong), BAD);
        }
        c.due("job", x.job(51, 0, 0), BAD);
        c.due("job", x.job(0, 51, 0), BAD);
        c.due("job", x.job(50, 50, 500), 0);
        c.due("job", x.job(0, 0, 0), 1);
        for (int k = 2; k < 7; k++) {
            c.due("job", x.job(1, 1, 1), k);
        }
        c.due("job", x.job(1, 1, 1), FULL);
        c.due("BAD ahead of FULL", x.job(1, 1, -1), BAD);
        c.due("count", x.count(7), 7);
    }

    private static void plan() {
        c.part("34 plan, 35 planned");
        TypeHouse x = new TypeHouse();
        c.due("plan", x.plan(), 0);
        c.due("planned", x.planned(0, 0), NONE);
        x.job(5, 1, 500);
        x.job(1, 5, 500);
        c.due("no plan yet", x.planned(0, 0), NONE);
        c.due("plan", x.plan(), 0);
        c.due("the one that ends first", x.planned(0, 0), 1);
        c.due("planned", x.planned(0, 1), 6);
        c.due("planned", x.planned(1, 0), 0);
        c.due("planned", x.planned(1, 1), 7);
        x.job(0, 0, 500);
        c.due("of the latest plan", x.planned(2, 0), NONE);
        c.due("plan", x.plan(), 0);
        c.due("then the least", x.planned(0, 0), 1);
        c.due("then the least", x.planned(1, 0), 0);
        c.due("then the least", x.planned(2, 0), 2);
        for (int wrong : WRONG) {
            c.due("planned", x.planned(wrong, 0), NONE);
            c.due("planned", x.planned(0, wrong), NONE);
        }
        c.due("planned", x.planned(3, 0), NONE);
        c.due("planned", x.planned(0, 2), NONE);

        TypeHouse y = new TypeHouse();
        y.job(4, 4, 30);
        y.job(4, 4, 0);
        y.job(4, 4, 12);
        c.due("plan", y.plan(), 8);
        c.due("less late is ahead of less as a row", y.planned(0, 0), 1);
        c.due("planned", y.planned(1, 0), 2);
        c.due("planned", y.planned(2, 1), 16);
        for (int k = 0; k < 4; k++) {
            y.job(50, 50, 0);
        }
        c.due("plan", y.plan(), 8 + 112 + 162 + 212 + 262);
        for (int i = 0; i < 7; i++) {
            c.due("planned", y.planned(i, 0), i == 0 ? 1 : i == 1 ? 2 : i == 2 ? 0 : i);
        }
    }

    private static void count() {
        c.part("36 count");
        TypeHouse x = withBooks();
        for (int wrong : WRONG) {
            c.due("count", x.count(wrong), NONE);
        }
        c.due("count", x.count(10), NONE);
        x.spoil(0, 0, 0);
        x.spoil(1, 0, 1);
        x.breakUp(0);
        x.breakUp(1);
        x.distribute(0);
        x.job(1, 1, 1);
        x.feed(0, 3);
        int[] due = {8, 7, 2, 53, 14, 2, 3, 1, 2, 14};
        for (int what = 0; what < 10; what++) {
            c.due("count " + what, x.count(what), due[what]);
        }
    }
}
