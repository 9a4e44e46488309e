import java.util.ArrayList;
import java.util.List;

/**
 * Every call with every choice of far and near numbers, in houses that are empty, at work and full: none throws, and
 * each answers as the plain model does.
 */
public final class ExtremesTest {
    private static final long[] FEW = {Integer.MIN_VALUE, -1, 0, 1, 2, 5, 60, Integer.MAX_VALUE};
    private static final long[] MANY = {
        Integer.MIN_VALUE, Integer.MIN_VALUE + 1, -65536, -256, -11, -6, -5, -4, -3, -2, -1, 0, 1, 2, 3, 4, 5,
        6, 7, 8, 9, 10, 11, 12, 13, 25, 26, 27, 29, 30, 31, 32, 33, 47, 48, 49, 50, 51, 59, 60, 61, 119, 120,
        121, 127, 128, 255, 256, 299, 300, 301, 499, 500, 501, 1000, 1001, 4064, 4095, 4096, 5000, 5001,
        10000, 10001, 65535, 65536, Integer.MAX_VALUE - 1, Integer.MAX_VALUE};
    private static final String[] CALLS = {"feed 2", "cast 2", "sorts 1", "page 0", "set 2", "misset 3", "distribute 1",
        "at 3", "faults 1", "fault 2", "sheet 3", "fold 5", "impose 2", "breakUp 1", "paper 1", "print 3", "forme 2",
        "state 3", "read 4", "spoil 3", "books 0", "inBook 2", "unlike 2", "kinds 0", "seen 3", "order 1", "ordered 1",
        "rivals 0", "law 0", "wages 1", "did 2", "job 3", "plan 0", "planned 2", "count 1"};

    private final Check check = new Check();
    private final List<Call> begin;
    private TypeHouse house;
    private PlainHouse plain;
    private int calls;

    private ExtremesTest(List<Call> begin) {
        this.begin = begin;
        renew();
    }

    public static void main(String[] args) {
        for (List<Call> begin : List.of(empty(), atWork(), full())) {
            ExtremesTest test = new ExtremesTest(begin);
            test.check.part("behind " + begin.size() + " calls");
            for (String call : CALLS) {
                String[] words = call.split(" ");
                test.sweep(words[0], new long[Integer.parseInt(words[1])], 0);
                test.renew();
            }
            test.check.end();
        }
    }

    private static List<Call> empty() {
        return new ArrayList<>();
    }

    private static void addPages(List<Call> rows, int n) {
        for (int k = 0; k < n; k++) {
            rows.add(new Call("feed", 0x6162, 2));
            rows.add(new Call("page"));
            rows.add(new Call("set", k, k % 6));
        }
    }

    private static List<Call> atWork() {
        List<Call> rows = new ArrayList<>();
        for (int letter = 0; letter < 26; letter++) {
            rows.add(new Call("cast", letter, 90));
        }
        addPages(rows, 9);
        rows.add(new Call("sheet", 1, 0, 3));
        rows.add(new Call("sheet", 1, 4, 2));
        rows.add(new Call("paper", 60));
        for (int forme = 0; forme < 4; forme++) {
            rows.add(new Call("impose", forme, forme));
            rows.add(new Call("print", forme, 1, 1));
            rows.add(new Call("misset", 2 * forme, 0, 3));
            rows.add(new Call("print", forme, 1, 60));
        }
        rows.add(new Call("spoil", 0, 1, 2));
        rows.add(new Call("breakUp", 0));
        rows.add(new Call("distribute", 0));
        rows.add(new Call("job", 3, 4, 5));
        rows.add(new Call("job", 1, 2, 3));
        rows.add(new Call("plan"));
        rows.add(new Call("seen", 0, 1, 5));
        rows.add(new Call("seen", 0, 2, 4));
        rows.add(new Call("order", 7));
        rows.add(new Call("feed", 0x7365743d37L, 5));
        rows.add(new Call("law"));
        return rows;
    }

    private static List<Call> full() {
        List<Call> rows = new ArrayList<>();
        for (int k = 0; k < 5; k++) {
            rows.add(new Call("cast", 0, 1000));
            rows.add(new Call("cast", 1, 1000));
        }
        addPages(rows, 48);
        for (int sheet = 0; sheet < 6; sheet++) {
            rows.add(new Call("sheet", 2, 8 * sheet, 60));
        }
        for (int forme = 0; forme < 4; forme++) {
            rows.add(new Call("impose", forme, forme));
        }
        for (int k = 0; k < 7; k++) {
            rows.add(new Call("job", 50, 50, 500));
        }
        rows.add(new Call("paper", 60));
        rows.add(new Call("print", 0, 1, 60));
        for (int k = 0; k < 38; k++) {
            rows.add(new Call("feed", 0x2020202020202020L, k < 37 ? 8 : 4));
        }
        return rows;
    }

    private void renew() {
        house = new TypeHouse();
        plain = new PlainHouse();
        calls = 0;
        begin.forEach(this::make);
    }

    private void make(Call call) {
        check.due(call.toString(), call.on(house), call.on(plain));
        calls++;
    }

    private void sweep(String name, long[] args, int at) {
        if (at == args.length) {
            if (calls == Cases.CALLS) {
                renew();
            }
            make(new Call(name, args.clone()));
            return;
        }
        for (long value : args.length > 2 ? FEW : MANY) {
            args[at] = value;
            sweep(name, args, at + 1);
        }
    }
}
