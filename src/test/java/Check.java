/** Counts the answers that are not as due, and the helpers that the tests share. */
final class Check {
    private int wrong;
    private int looked;
    private String part = "";

    void part(String name) {
        part = name;
    }

    void due(String call, long got, long want) {
        looked++;
        if (got != want) {
            wrong++;
            System.out.println(part + ": " + call + " answered " + got + ", due is " + want);
        }
    }

    void end() {
        System.out.println(looked + " answers, " + wrong + " not as due");
        if (wrong != 0) {
            System.exit(1);
        }
    }

    /** Feeds a text in pieces of up to 8 bytes; the answer of the last feed. */
    static int feed(TypeHouse x, String text) {
        int answer = 0;
        for (int from = 0; from < text.length(); from += 8) {
            int n = Math.min(8, text.length() - from);
            long w = 0;
            for (int k = 0; k < n; k++) {
                w = w << 8 | text.charAt(from + k) & 255;
            }
            answer = x.feed(w, n);
        }
        return answer;
    }

    static int page(TypeHouse x, String copy) {
        feed(x, copy);
        return x.page();
    }

    static int law(TypeHouse x, String text) {
        feed(x, text);
        return x.law();
    }
}
