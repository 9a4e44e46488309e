import java.util.ArrayList;
import java.util.List;

/** All that can be asked of an object, so that two of them can be held against one another. */
final class Asked {
    static final String[] TAILS = {"no work", "page()", "law()", "more work"};

    private Asked() {
    }

    /** Calls that change much and so show what no question shows by itself. */
    static List<Call> tail(String name) {
        List<Call> calls = new ArrayList<>();
        switch (name) {
            case "page()" -> calls.add(new Call("page"));
            case "law()" -> calls.add(new Call("law"));
            case "more work" -> moreWork(calls);
            default -> {
            }
        }
        return calls;
    }

    private static void moreWork(List<Call> calls) {
        calls.add(new Call("feed", 97, 1));
        calls.add(new Call("page"));
        calls.add(new Call("cast", 0, 7));
        calls.add(new Call("cast", 1, 7));
        for (int page = 0; page < 5; page++) {
            calls.add(new Call("set", page, 4));
            calls.add(new Call("misset", page, 0, 1));
        }
        calls.add(new Call("sheet", 1, 0, 3));
        calls.add(new Call("sheet", 1, 4, 2));
        calls.add(new Call("paper", 2));
        for (int forme = 0; forme < 4; forme++) {
            calls.add(new Call("impose", forme, forme));
            calls.add(new Call("print", forme, 5, 1));
        }
        calls.add(new Call("misset", 0, 0, 0));
        calls.add(new Call("paper", 60));
        for (int forme = 0; forme < 4; forme++) {
            calls.add(new Call("print", forme, 5, 60));
            calls.add(new Call("breakUp", forme));
        }
        calls.add(new Call("spoil", 0, 1, 3));
        calls.add(new Call("distribute", 0));
        calls.add(new Call("distribute", 1));
        calls.add(new Call("seen", 0, 0, 5));
        calls.add(new Call("order", 7));
        calls.add(new Call("job", 1, 2, 3));
        calls.add(new Call("plan"));
    }

    /** Every question that changes nothing, as far as there are pages and sheets behind these calls. */
    static List<Call> all(List<Call> ahead, List<Call> work) {
        TypeHouse house = new TypeHouse();
        ahead.forEach(call -> call.on(house));
        work.forEach(call -> call.on(house));
        List<Call> calls = new ArrayList<>();
        each(calls, "count", 9);
        each(calls, "sorts", 25);
        int pages = house.count(0);
        int sheets = house.count(2);
        for (int page = 0; page < pages; page++) {
            calls.add(new Call("faults", page));
            calls.add(new Call("fault", page, 0));
            for (int place = 0; place < 3; place++) {
                calls.add(new Call("at", page, place, 0));
                calls.add(new Call("at", page, place, 1));
            }
        }
        for (int sheet = 0; sheet < sheets; sheet++) {
            ofSheet(calls, sheet, pages);
        }
        calls.add(new Call("books"));
        calls.add(new Call("kinds"));
        int last = house.books() > 0 ? 60 : 0;
        for (int book = 0; book < last; book++) {
            calls.add(new Call("unlike", book, 59 - book));
            calls.add(new Call("unlike", book, book + 1));
        }
        each(calls, "ordered", 6);
        calls.add(new Call("rivals"));
        ofHandsAndJobs(calls);
        return calls;
    }

    private static void each(List<Call> calls, String name, int last) {
        for (int k = 0; k <= last; k++) {
            calls.add(new Call(name, k));
        }
    }

    private static void ofSheet(List<Call> calls, int sheet, int pages) {
        for (int what = 0; what < 6; what++) {
            calls.add(new Call("forme", 2 * sheet, what));
            calls.add(new Call("forme", 2 * sheet + 1, what));
        }
        for (int copy = 0; copy < 60; copy++) {
            calls.add(new Call("state", sheet, copy, 0));
            calls.add(new Call("state", sheet, copy, 1));
            calls.add(new Call("inBook", copy, sheet));
        }
        for (int page = 0; page < pages; page++) {
            for (int copy = 0; copy < 3; copy++) {
                calls.add(new Call("read", sheet, copy, page, 0));
                calls.add(new Call("read", sheet, copy, page, 1));
            }
        }
    }

    private static void ofHandsAndJobs(List<Call> calls) {
        for (int hand = 0; hand < 6; hand++) {
            calls.add(new Call("wages", hand));
            for (int what = 0; what < 4; what++) {
                calls.add(new Call("did", hand, what));
            }
        }
        for (int i = 0; i < 7; i++) {
            calls.add(new Call("planned", i, 0));
            calls.add(new Call("planned", i, 1));
        }
    }

    /**
     * The answers of the calls asked, behind those ahead and the refused one, if there is one. The first ones (work)
     * change the object, the others are asked on as many objects as 512 calls on each make needful.
     */
    static List<Integer> answers(List<Call> ahead, Call refused, int work, List<Call> asked) {
        List<Integer> answers = new ArrayList<>();
        int room = Cases.CALLS - ahead.size() - 1 - work;
        if (room < 1) {
            throw new IllegalArgumentException("a case has too many calls ahead of " + refused);
        }
        int next = work;
        do {
            TypeHouse house = new TypeHouse();
            ahead.forEach(call -> call.on(house));
            if (refused != null) {
                refused.on(house);
            }
            for (int k = 0; k < work; k++) {
                int answer = asked.get(k).on(house);
                if (answers.size() == k) {
                    answers.add(answer);
                }
            }
            int end = Math.min(asked.size(), next + room);
            for (int k = next; k < end; k++) {
                answers.add(asked.get(k).on(house));
            }
            next = end;
        } while (next < asked.size());
        return answers;
    }
}
