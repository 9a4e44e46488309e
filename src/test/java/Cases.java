import java.io.IOException;
import java.nio.file.Files;
import java.nio.file.Path;
import java.util.ArrayList;
import java.util.Arrays;
import java.util.HashMap;
import java.util.List;
import java.util.Map;

/**
 * Cases told as rows of calls on a new object, one case for each sentence of the document that names a bound.
 *
 * <pre>
 *   cast 0 1000 = 1000      the answer that is due
 *   cast 0 0,1001 ! BAD     a refusal: the answer that is due, and it must leave no trace
 *   paper 60                a call whose answer is not looked at
 *   sorts 0..25 = 0         a row for each value of an argument, with one answer for all or one for each
 *   5x cast 0 1000          the same call so many times
 *   tape a*119 _ |          feeds of these bytes: 119 times a, a blank, a line end
 * </pre>
 *
 * Of a refusal it is tried that all that can be asked afterwards, at once and behind more work, is answered as on an
 * object on which it was not made.
 */
final class Cases {
    static final int CALLS = 512;

    private static final Path DOCUMENT = Path.of("../shared/DOC.md");

    private record Row(Call call, boolean refused, Integer due) {
    }

    private final Check check = new Check();
    private final String document;
    private int refusals;

    Cases() throws IOException {
        document = Files.readString(DOCUMENT).replaceAll("\\s+", " ");
    }

    /** The sentence must stand in the document, so that no case outlives what it is for. */
    void of(String where, String sentence, String... texts) {
        check.part(where + " \"" + sentence + "\"");
        check.due("stands in the document", document.contains(sentence) ? 1 : 0, 1);
        List<Row> rows = new ArrayList<>();
        for (String text : texts) {
            for (String line : text.split("\n")) {
                readLine(line.strip(), rows);
            }
        }
        check.due("calls are at most " + CALLS, Math.min(rows.size(), CALLS), rows.size());
        answersAreDue(rows, true);
        answersAreDue(rows, false);
        refusalsLeaveNoTrace(rows);
    }

    void end() {
        System.out.println(refusals + " refusals without a trace");
        check.end();
    }

    // ---- rows that many cases begin with

    /** So many pages "ab". */
    static String pages(int n) {
        return "tape ab\npage\n".repeat(n);
    }

    /** Plenty of a to e, and so many pages "ab", all SET by hand 0. */
    static String setPages(int n) {
        StringBuilder text = new StringBuilder("cast 0..4 500\n").append(pages(n));
        return text.append(n == 0 ? "" : "set 0.." + (n - 1) + " 0\n").toString();
    }

    /** A sheet of the pages 0 to 3, with plenty of paper, and both formes IMPOSED; pages 0 and 3 are outside. */
    static String sheetOf(int copies) {
        return setPages(4) + "sheet 1 0 " + copies + "\nimpose 0 0\nimpose 1 1\n2x paper 60\n";
    }

    // ---- reading

    private static void readLine(String line, List<Row> rows) {
        if (line.isEmpty()) {
            return;
        }
        String[] words = line.split(" +");
        int from = words[0].matches("[0-9]+x") ? 1 : 0;
        int times = from == 0 ? 1 : Integer.parseInt(words[0].substring(0, words[0].length() - 1));
        int mark = words.length;
        for (int k = from; k < words.length && mark == words.length; k++) {
            if (words[k].equals("=") || words[k].equals("!")) {
                mark = k;
            }
        }
        for (int k = 0; k < times; k++) {
            if (words[from].equals("tape")) {
                addTape(words, from + 1, mark, rows);
            } else {
                addCalls(words, from, mark, rows);
            }
        }
    }

    private static void addTape(String[] words, int from, int to, List<Row> rows) {
        StringBuilder bytes = new StringBuilder();
        for (int k = from; k < to; k++) {
            int star = words[k].indexOf('*');
            String text = star < 0 ? words[k] : words[k].substring(0, star);
            int times = star < 0 ? 1 : Integer.parseInt(words[k].substring(star + 1));
            bytes.append(text.replace('_', ' ').replace('|', '\n').repeat(times));
        }
        for (int place = 0; place < bytes.length(); place += 8) {
            int n = Math.min(8, bytes.length() - place);
            long w = 0;
            for (int k = 0; k < n; k++) {
                w = w << 8 | bytes.charAt(place + k) & 255;
            }
            rows.add(new Row(new Call("feed", w, n), false, null));
        }
    }

    private static void addCalls(String[] words, int from, int mark, List<Row> rows) {
        List<Call> calls = callsOf(words, from, mark);
        int answers = Math.max(0, words.length - mark - 1);
        if (answers > 1 && answers != calls.size()) {
            throw new IllegalArgumentException(String.join(" ", words) + ": " + calls.size() + " calls");
        }
        boolean refused = mark < words.length && words[mark].equals("!");
        for (int k = 0; k < calls.size(); k++) {
            Integer due = answers == 0 ? null : (int) numberOf(words[mark + 1 + (answers == 1 ? 0 : k)]);
            rows.add(new Row(calls.get(k), refused, due));
        }
    }

    private static List<Call> callsOf(String[] words, int from, int mark) {
        if (!Call.isKnown(words[from], mark - from - 1)) {
            throw new IllegalArgumentException("no such call: " + String.join(" ", words));
        }
        List<Call> calls = List.of(new Call(words[from]));
        for (int k = from + 1; k < mark; k++) {
            List<Call> longer = new ArrayList<>();
            for (Call call : calls) {
                for (long value : valuesOf(words[k])) {
                    long[] args = Arrays.copyOf(call.args(), call.args().length + 1);
                    args[args.length - 1] = value;
                    longer.add(new Call(call.name(), args));
                }
            }
            calls = longer;
        }
        return calls;
    }

    private static List<Long> valuesOf(String word) {
        List<Long> values = new ArrayList<>();
        for (String piece : word.split(",")) {
            int dots = piece.indexOf("..");
            long first = numberOf(dots < 0 ? piece : piece.substring(0, dots));
            long more = dots < 0 ? 0 : numberOf(piece.substring(dots + 2)) - first;
            for (long k = 0; k <= more; k++) {
                values.add(first + k);
            }
        }
        return values;
    }

    private static long numberOf(String word) {
        return switch (word) {
            case "NONE" -> TypeHouse.NONE;
            case "BAD" -> TypeHouse.BAD;
            case "STATE" -> TypeHouse.STATE;
            case "FULL" -> TypeHouse.FULL;
            case "NOSUCH" -> -5;
            case "MIN" -> Integer.MIN_VALUE;
            case "MAX" -> Integer.MAX_VALUE;
            default -> word.startsWith("0x") ? Long.parseUnsignedLong(word.substring(2), 16) : Long.parseLong(word);
        };
    }

    // ---- trying

    private void answersAreDue(List<Row> rows, boolean withRefused) {
        TypeHouse house = new TypeHouse();
        PlainHouse plain = new PlainHouse();
        for (Row row : rows) {
            if (withRefused || !row.refused) {
                int got = row.call.on(house);
                int plainly = row.call.on(plain);
                if (row.due != null) {
                    check.due(row.call.toString(), got, row.due);
                    check.due("on the plain model " + row.call, plainly, row.due);
                }
            }
        }
    }

    private void refusalsLeaveNoTrace(List<Row> rows) {
        List<Call> ahead = new ArrayList<>();
        Map<String, List<Integer>> known = new HashMap<>();
        for (Row row : rows) {
            if (row.refused) {
                refusals++;
                leavesNoTrace(ahead, row.call, known);
            } else {
                ahead.add(row.call);
                known.clear();
            }
        }
    }

    /** What an object without the call answers is kept in known, as long as the calls ahead are the same. */
    private void leavesNoTrace(List<Call> ahead, Call refused, Map<String, List<Integer>> known) {
        for (String tail : Asked.TAILS) {
            List<Call> work = Asked.tail(tail);
            List<Call> asked = new ArrayList<>(work);
            List<Integer> due = known.get(tail);
            asked.addAll(Asked.all(ahead, work));
            if (due == null) {
                due = Asked.answers(ahead, null, work.size(), asked);
                known.put(tail, due);
            }
            List<Integer> got = Asked.answers(ahead, refused, work.size(), asked);
            for (int k = 0; k < asked.size(); k++) {
                check.due(asked.get(k) + " behind the refused " + refused + " and " + tail, got.get(k), due.get(k));
            }
        }
    }
}
