import java.util.ArrayList;
import java.util.Arrays;
import java.util.HashMap;
import java.util.HashSet;
import java.util.List;
import java.util.Map;
import java.util.Set;
import java.util.regex.Pattern;

/** The document once more, in the slowest and plainest way: whole rows are kept, every order is tried. */
final class PlainHouse {
    static final int NONE = -1, BAD = -2, STATE = -3, FULL = -4;

    private static final class APage {
        String copy;
        char[] set;
        int hand;
        int sheet = -1;
    }

    private static final class AForme {
        List<Integer> pages = new ArrayList<>();
        int skeleton = -1;
        int missettings;
        /** By COPY: the state and the rows of all its pages, as they were printed. */
        Map<Integer, Integer> states = new HashMap<>();
        Map<Integer, Map<Integer, String>> rows = new HashMap<>();
    }

    private static final class ASheet {
        int copies;
        int firstSide = -1;
        Set<Integer> spoilt = new HashSet<>();
    }

    private String tape = "";
    private final int[] inCase = new int[26];
    private final List<APage> pages = new ArrayList<>();
    private final List<ASheet> sheets = new ArrayList<>();
    private final List<AForme> formes = new ArrayList<>();
    private int paper;
    private final int[][] did = new int[6][3];
    private final int[][] wear = new int[6][12];
    private List<Integer> order = List.of();
    private int rivals;
    private final Map<String, int[]> law = new HashMap<>();
    private final List<int[]> jobs = new ArrayList<>();
    private List<int[]> plan = List.of();

    PlainHouse() {
        for (int[] row : wear) {
            Arrays.fill(row, -1);
        }
    }

    private static boolean in(int value, int from, int to) {
        return value >= from && value <= to;
    }

    private boolean isPage(int page) {
        return in(page, 0, pages.size() - 1);
    }

    private boolean isForme(int forme) {
        return in(forme, 0, formes.size() - 1);
    }

    private boolean isCopy(int sheet, int copy) {
        return in(sheet, 0, sheets.size() - 1) && in(copy, 0, sheets.get(sheet).copies - 1);
    }

    private static int code(char sign) {
        return sign == ' ' ? 32 : sign == '\n' ? 33 : sign - 'a';
    }

    int feed(long w, int n) {
        if (!in(n, 1, 8)) {
            return BAD;
        }
        if (tape.length() + n > 300) {
            return FULL;
        }
        String more = "";
        for (int k = 0; k < n; k++) {
            more = (char) (w & 255) + more;
            w >>= 8;
        }
        tape += more;
        return tape.length();
    }

    int cast(int letter, int n) {
        if (!in(letter, 0, 25)) {
            return NONE;
        }
        if (!in(n, 1, 1000)) {
            return BAD;
        }
        return inCase[letter] + n > 5000 ? FULL : (inCase[letter] += n);
    }

    int sorts(int letter) {
        return in(letter, 0, 25) ? inCase[letter] : NONE;
    }

    int page() {
        if (tape.isEmpty()) {
            return BAD;
        }
        if (pages.size() == 48) {
            return FULL;
        }
        String text = tape;
        tape = "";
        int good = 0;
        while (good < text.length() && good < 120 && text.substring(good, good + 1).matches("[a-z \n]")) {
            good++;
        }
        if (good < text.length()) {
            return -10 - good;
        }
        APage page = new APage();
        page.copy = text;
        pages.add(page);
        return pages.size() - 1;
    }

    int set(int page, int hand) {
        if (!isPage(page) || !in(hand, 0, 5)) {
            return NONE;
        }
        APage it = pages.get(page);
        if (it.set != null) {
            return STATE;
        }
        for (char sign = 'a'; sign <= 'z'; sign++) {
            int letter = sign;
            if (it.copy.chars().filter(k -> k == letter).count() > inCase[sign - 'a']) {
                return -10 - (sign - 'a');
            }
        }
        String letters = it.copy.replaceAll("[ \n]", "");
        letters.chars().forEach(k -> inCase[k - 'a']--);
        it.set = it.copy.toCharArray();
        it.hand = hand;
        did[hand][0] += letters.length();
        return letters.length();
    }

    private AForme formeOf(int page) {
        for (AForme forme : formes) {
            if (forme.skeleton >= 0 && forme.pages.contains(page)) {
                return forme;
            }
        }
        return null;
    }

    int misset(int page, int place, int letter) {
        if (!isPage(page) || !in(place, 0, pages.get(page).copy.length() - 1) || !in(letter, 0, 25)) {
            return NONE;
        }
        APage it = pages.get(page);
        if (it.set == null) {
            return STATE;
        }
        int stood = code(it.set[place]);
        if (stood >= 26 || stood == letter) {
            return BAD;
        }
        AForme forme = formeOf(page);
        boolean counts = forme != null && !forme.states.isEmpty();
        if (inCase[letter] == 0 || counts && forme.missettings == 30) {
            return FULL;
        }
        inCase[stood]++;
        inCase[letter]--;
        it.set[place] = (char) ('a' + letter);
        if (counts) {
            forme.missettings++;
        }
        return stood;
    }

    int distribute(int page) {
        if (!isPage(page)) {
            return NONE;
        }
        APage it = pages.get(page);
        if (it.set == null || formeOf(page) != null) {
            return STATE;
        }
        int sorts = 0;
        for (char sign : it.set) {
            if (sign >= 'a') {
                inCase[sign - 'a']++;
                sorts++;
            }
        }
        it.set = null;
        return sorts;
    }

    int at(int page, int place, int what) {
        if (!isPage(page) || !in(place, 0, pages.get(page).copy.length() - 1) || !in(what, 0, 1)) {
            return NONE;
        }
        APage it = pages.get(page);
        if (what == 0) {
            return code(it.copy.charAt(place));
        }
        return it.set == null ? STATE : code(it.set[place]);
    }

    private static List<Integer> faultsOf(APage it) {
        List<Integer> places = new ArrayList<>();
        for (int k = 0; k < it.copy.length(); k++) {
            if (it.copy.charAt(k) != it.set[k]) {
                places.add(k);
            }
        }
        return places;
    }

    int faults(int page) {
        if (!isPage(page)) {
            return NONE;
        }
        return pages.get(page).set == null ? STATE : faultsOf(pages.get(page)).size();
    }

    int fault(int page, int i) {
        int n = faults(page);
        if (n < 0) {
            return n;
        }
        return in(i, 0, n - 1) ? faultsOf(pages.get(page)).get(i) : NONE;
    }

    /** The faces from above: each leaf as {column, row, side, turns from the back}. */
    private static List<int[]> folded(int format) {
        int columns = format == 3 ? 4 : 2;
        int rows = format == 1 ? 1 : 2;
        Map<String, List<int[]>> piles = new HashMap<>();
        for (int column = 0; column < columns; column++) {
            for (int row = 0; row < rows; row++) {
                List<int[]> faces = new ArrayList<>();
                faces.add(new int[] {column, row, 1, 0});
                faces.add(new int[] {column, row, 0, 0});
                piles.put(column + "," + row, faces);
            }
        }
        while (columns * rows > 1) {
            boolean back = columns <= rows;
            for (int column = back ? 0 : columns / 2; column < columns; column++) {
                for (int row = back ? rows / 2 : 0; row < rows; row++) {
                    List<int[]> upsideDown = new ArrayList<>();
                    for (int[] face : piles.remove(column + "," + row)) {
                        upsideDown.add(0, new int[] {face[0], face[1], face[2], face[3] + (back ? 1 : 0)});
                    }
                    String onto = back ? column + "," + (rows - 1 - row) : (columns - 1 - column) + "," + row;
                    upsideDown.addAll(piles.get(onto));
                    piles.put(onto, upsideDown);
                }
            }
            columns = back ? columns : columns / 2;
            rows = back ? rows / 2 : rows;
        }
        return piles.get("0,0");
    }

    int sheet(int format, int first, int copies) {
        if (!in(format, 1, 3) || !in(copies, 1, 60)) {
            return BAD;
        }
        int faces = 2 << format;
        for (long k = first; k < (long) first + faces; k++) {
            if (k < 0 || k >= pages.size()) {
                return NONE;
            }
        }
        for (int k = first; k < first + faces; k++) {
            if (pages.get(k).sheet >= 0) {
                return STATE;
            }
        }
        if (sheets.size() == 6) {
            return FULL;
        }
        ASheet sheet = new ASheet();
        sheet.copies = copies;
        AForme[] sides = {new AForme(), new AForme()};
        List<int[]> order = folded(format);
        for (int k = 0; k < faces; k++) {
            sides[order.get(k)[2]].pages.add(first + k);
            pages.get(first + k).sheet = sheets.size();
        }
        formes.addAll(List.of(sides));
        sheets.add(sheet);
        return sheets.size() - 1;
    }

    int fold(int format, int column, int row, int side, int what) {
        if (!in(format, 1, 3)) {
            return BAD;
        }
        List<int[]> order = folded(format);
        for (int k = 0; k < order.size(); k++) {
            int[] face = order.get(k);
            if (face[0] == column && face[1] == row && face[2] == side && in(what, 0, 1)) {
                return what == 0 ? k : face[3] % 2;
            }
        }
        return NONE;
    }

    int impose(int forme, int skeleton) {
        if (!isForme(forme) || !in(skeleton, 0, 3)) {
            return NONE;
        }
        AForme it = formes.get(forme);
        if (it.skeleton >= 0 || !it.states.isEmpty()) {
            return STATE;
        }
        for (AForme other : formes) {
            if (other.skeleton == skeleton) {
                return STATE;
            }
        }
        for (int page : it.pages) {
            if (pages.get(page).set == null || formeOf(page) != null) {
                return STATE;
            }
        }
        it.skeleton = skeleton;
        return it.pages.size();
    }

    int breakUp(int forme) {
        if (!isForme(forme)) {
            return NONE;
        }
        AForme it = formes.get(forme);
        int made = it.states.size();
        if (it.skeleton < 0 || made != 0 && made != sheets.get(forme / 2).copies) {
            return STATE;
        }
        int skeleton = it.skeleton;
        it.skeleton = -1;
        return skeleton;
    }

    int paper(int n) {
        if (!in(n, 1, 60)) {
            return BAD;
        }
        return paper + n > 10000 ? FULL : (paper += n);
    }

    int print(int forme, int hand, int n) {
        if (!isForme(forme) || !in(hand, 0, 5)) {
            return NONE;
        }
        if (!in(n, 1, 60)) {
            return BAD;
        }
        int made = 0;
        while (made < n && impression(forme)) {
            made++;
        }
        did[hand][1] += made;
        return made == 0 ? STATE : made;
    }

    private boolean impression(int forme) {
        AForme it = formes.get(forme);
        ASheet sheet = sheets.get(forme / 2);
        int t = it.states.size();
        if (it.skeleton < 0 || t == sheet.copies) {
            return false;
        }
        boolean first = sheet.firstSide < 0 || sheet.firstSide == forme % 2;
        if (first ? paper == 0 : formes.get(forme ^ 1).states.size() < sheet.copies) {
            return false;
        }
        if (first) {
            paper--;
            sheet.firstSide = forme % 2;
        }
        int copy = first ? t : sheet.copies - 1 - t;
        Map<Integer, String> rows = new HashMap<>();
        for (int page : it.pages) {
            rows.put(page, new String(pages.get(page).set));
        }
        it.states.put(copy, it.missettings);
        it.rows.put(copy, rows);
        return true;
    }

    int forme(int forme, int what) {
        if (!isForme(forme) || !in(what, 0, 5)) {
            return -5;
        }
        AForme it = formes.get(forme);
        int[] answers = {it.skeleton >= 0 ? 1 : 0, it.skeleton, it.states.size(), it.missettings,
            new HashSet<>(it.states.values()).size(), sheets.get(forme / 2).firstSide == forme % 2 ? 1 : 0};
        return answers[what];
    }

    int state(int sheet, int copy, int side) {
        if (!isCopy(sheet, copy) || !in(side, 0, 1)) {
            return NONE;
        }
        return formes.get(2 * sheet + side).states.getOrDefault(copy, NONE);
    }

    int read(int sheet, int copy, int page, int place) {
        if (!isCopy(sheet, copy)) {
            return NONE;
        }
        for (int side = 0; side < 2; side++) {
            Map<Integer, String> rows = formes.get(2 * sheet + side).rows.getOrDefault(copy, Map.of());
            if (rows.containsKey(page) && in(place, 0, rows.get(page).length() - 1)) {
                return code(rows.get(page).charAt(place));
            }
        }
        return NONE;
    }

    int spoil(int sheet, int copy, int hand) {
        if (!isCopy(sheet, copy) || !in(hand, 0, 5)) {
            return NONE;
        }
        ASheet it = sheets.get(sheet);
        if (it.spoilt.contains(copy) || state(sheet, copy, 0) == NONE && state(sheet, copy, 1) == NONE) {
            return STATE;
        }
        it.spoilt.add(copy);
        did[hand][2]++;
        return it.spoilt.size();
    }

    /** By BOOK that is there: its copies. */
    private Map<Integer, List<Integer>> allBooks() {
        Map<Integer, List<Integer>> found = new HashMap<>();
        for (int book = 0; book < 60 && !sheets.isEmpty(); book++) {
            List<Integer> copies = new ArrayList<>();
            for (int sheet = 0; sheet < sheets.size(); sheet++) {
                List<Integer> good = new ArrayList<>();
                for (int copy = 0; copy < sheets.get(sheet).copies; copy++) {
                    if (!sheets.get(sheet).spoilt.contains(copy)) {
                        good.add(copy);
                    }
                }
                if (book < good.size() && state(sheet, good.get(book), 0) >= 0
                    && state(sheet, good.get(book), 1) >= 0) {
                    copies.add(good.get(book));
                }
            }
            if (copies.size() == sheets.size()) {
                found.put(book, copies);
            }
        }
        return found;
    }

    private List<Integer> statesOf(List<Integer> copies) {
        List<Integer> states = new ArrayList<>();
        for (int forme = 0; forme < formes.size(); forme++) {
            states.add(state(forme / 2, copies.get(forme / 2), forme % 2));
        }
        return states;
    }

    int books() {
        return allBooks().size();
    }

    int inBook(int book, int sheet) {
        List<Integer> copies = allBooks().getOrDefault(book, List.of());
        return in(sheet, 0, copies.size() - 1) ? copies.get(sheet) : NONE;
    }

    int unlike(int a, int b) {
        Map<Integer, List<Integer>> all = allBooks();
        if (!all.containsKey(a) || !all.containsKey(b)) {
            return NONE;
        }
        List<Integer> one = statesOf(all.get(a));
        List<Integer> other = statesOf(all.get(b));
        int unlike = 0;
        for (int k = 0; k < one.size(); k++) {
            unlike += one.get(k).equals(other.get(k)) ? 0 : 1;
        }
        return unlike;
    }

    int kinds() {
        Set<List<Integer>> kinds = new HashSet<>();
        for (List<Integer> copies : allBooks().values()) {
            kinds.add(statesOf(copies));
        }
        return kinds.size();
    }

    int seen(int letter, int forme, int newWear) {
        if (!in(letter, 0, 5) || !in(forme, 0, 11)) {
            return -5;
        }
        if (!in(newWear, -1, 9)) {
            return BAD;
        }
        int was = wear[letter][forme];
        wear[letter][forme] = newWear;
        return was;
    }

    /** All orders of the numbers, the least as a row first. */
    private static void orders(List<Integer> head, List<Integer> rest, List<List<Integer>> all) {
        if (rest.isEmpty()) {
            all.add(head);
        }
        for (Integer next : rest) {
            List<Integer> longer = new ArrayList<>(head);
            longer.add(next);
            List<Integer> left = new ArrayList<>(rest);
            left.remove(next);
            orders(longer, left, all);
        }
    }

    private int quarrels(List<Integer> row) {
        int sum = 0;
        for (int[] of : wear) {
            for (int i = 0; i < row.size(); i++) {
                for (int j = i + 1; j < row.size(); j++) {
                    int ahead = of[row.get(i)];
                    int behind = of[row.get(j)];
                    sum += ahead >= 0 && behind >= 0 && ahead > behind ? 1 : 0;
                }
            }
        }
        return sum;
    }

    int order(int set) {
        List<Integer> numbers = new ArrayList<>();
        for (int bit = 0; bit < 32; bit++) {
            if ((set >>> bit & 1) == 1) {
                numbers.add(bit);
            }
        }
        if (!in(numbers.size(), 1, 7) || numbers.get(numbers.size() - 1) > 11) {
            return BAD;
        }
        List<List<Integer>> all = new ArrayList<>();
        orders(List.of(), numbers, all);
        int fewest = Integer.MAX_VALUE;
        for (List<Integer> row : all) {
            int here = quarrels(row);
            if (here < fewest) {
                fewest = here;
                order = row;
                rivals = 0;
            }
            rivals += here == fewest ? 1 : 0;
        }
        return fewest;
    }

    int ordered(int i) {
        return in(i, 0, order.size() - 1) ? order.get(i) : NONE;
    }

    int rivals() {
        return order.isEmpty() ? STATE : rivals;
    }

    private static final String CLAUSE = "(set|fault|print|spoil)=(0|[1-9][0-9]{0,3})(/[1-9][0-9]{0,3})?";
    private static final Pattern LAW = Pattern.compile(CLAUSE + "(;" + CLAUSE + "){0,7}");

    private static boolean isLaw(String text) {
        return LAW.matcher(text).matches();
    }

    private static boolean canGoOn(String start) {
        if (isLaw(start)) {
            return true;
        }
        for (String clause : new String[] {"set=1", "fault=1", "print=1", "spoil=1"}) {
            for (int from = 0; from < clause.length(); from++) {
                if (isLaw(start + clause.substring(from))) {
                    return true;
                }
            }
        }
        return false;
    }

    int law() {
        String text = tape;
        tape = "";
        for (int k = 0; k < text.length(); k++) {
            if (!canGoOn(text.substring(0, k + 1))) {
                return -10 - k;
            }
        }
        if (!isLaw(text)) {
            return -10 - text.length();
        }
        law.clear();
        String[] clauses = text.split(";");
        for (String clause : clauses) {
            String[] sides = clause.split("=");
            String[] numbers = (sides[1] + "/1").split("/");
            law.put(sides[0], new int[] {Integer.parseInt(numbers[0]), Integer.parseInt(numbers[1])});
        }
        return clauses.length;
    }

    private int pay(String word, int howMany) {
        int[] numbers = law.getOrDefault(word, new int[] {0, 1});
        return howMany * numbers[0] / numbers[1];
    }

    int wages(int hand) {
        if (!in(hand, 0, 5)) {
            return NONE;
        }
        return Math.max(0, pay("set", did(hand, 0)) + pay("print", did(hand, 1))
            - pay("fault", did(hand, 3)) - pay("spoil", did(hand, 2)));
    }

    int did(int hand, int what) {
        if (!in(hand, 0, 5) || !in(what, 0, 3)) {
            return NONE;
        }
        if (what < 3) {
            return did[hand][what];
        }
        int sum = 0;
        for (APage page : pages) {
            sum += page.set != null && page.hand == hand ? faultsOf(page).size() : 0;
        }
        return sum;
    }

    int job(int set, int print, int due) {
        if (!in(set, 0, 50) || !in(print, 0, 50) || !in(due, 0, 500)) {
            return BAD;
        }
        if (jobs.size() == 7) {
            return FULL;
        }
        jobs.add(new int[] {set, print, due});
        return jobs.size() - 1;
    }

    int plan() {
        List<Integer> numbers = new ArrayList<>();
        for (int k = 0; k < jobs.size(); k++) {
            numbers.add(k);
        }
        List<List<Integer>> all = new ArrayList<>();
        orders(List.of(), numbers, all);
        int least = Integer.MAX_VALUE;
        int earliest = Integer.MAX_VALUE;
        for (List<Integer> row : all) {
            List<int[]> ends = new ArrayList<>();
            int isSet = 0;
            int printed = 0;
            int late = 0;
            for (int number : row) {
                isSet += jobs.get(number)[0];
                printed = Math.max(isSet, printed) + jobs.get(number)[1];
                late += Math.max(0, printed - jobs.get(number)[2]);
                ends.add(new int[] {number, printed});
            }
            if (late < least || late == least && printed < earliest) {
                least = late;
                earliest = printed;
                plan = ends;
            }
        }
        return least;
    }

    int planned(int i, int what) {
        return in(i, 0, plan.size() - 1) && in(what, 0, 1) ? plan.get(i)[what] : NONE;
    }

    int count(int what) {
        int pagesSet = 0;
        int sorts = 0;
        for (APage page : pages) {
            if (page.set != null) {
                pagesSet++;
                sorts += page.copy.replaceAll("[ \n]", "").length();
            }
        }
        int impressions = 0;
        int imposed = 0;
        for (AForme forme : formes) {
            impressions += forme.states.size();
            imposed += forme.skeleton >= 0 ? 1 : 0;
        }
        int spoilt = 0;
        for (ASheet sheet : sheets) {
            spoilt += sheet.spoilt.size();
        }
        int[] answers = {pages.size(), pagesSet, sheets.size(), paper, impressions, spoilt, tape.length(),
            jobs.size(), imposed, sorts};
        return in(what, 0, 9) ? answers[what] : NONE;
    }
}
