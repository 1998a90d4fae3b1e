import java.util.ArrayDeque;
import java.util.ArrayList;
import java.util.Comparator;
import java.util.Deque;
import java.util.HashMap;
import java.util.List;
import java.util.Map;
import java.util.NoSuchElementException;
import java.util.TreeMap;

/**
 * The document's words done again in the plainest way, with the Java library and without any thrift: what
 * TextMender answers is compared with this. Where the document leaves an answer open, it says so (the calls that
 * end in Open), and that answer is not compared.
 */
final class NaiveMender {
    static final int NONE = -1;
    static final int MARK = 65533;

    /** What a WRITTEN or READ came to. */
    record Outcome(List<Integer> numbers, int fault) {
        boolean good() {
            return fault == NONE;
        }
    }

    record Harm(int a, int b) { }

    record RowFound(List<Integer> harms, int cost, List<Integer> text) { }

    record ChoiceFound(int first, int second, int cost, List<Integer> text) { }

    record Part(int end, int harm, List<Integer> text) { }

    record Parting(int cost, List<Part> parts) { }

    private List<Integer> tape = new ArrayList<>();
    private List<Integer> text = new ArrayList<>();
    private final List<Harm> list = new ArrayList<>();
    private final Map<Integer, TreeMap<Integer, Integer>> told = new HashMap<>();
    private final Map<List<Integer>, Integer> costs = new HashMap<>();
    private final Deque<List<Integer>> changes = new ArrayDeque<>();
    private List<RowFound> rowsTold = new ArrayList<>();
    private List<ChoiceFound> choicesTold = new ArrayList<>();
    private long version = 0;
    private long choicesVersion = -1;
    private long emptied = 0;
    private long choicesEmptied = 0;
    private long tables = 0;
    private long rowsTables = 0;
    private long choicesTables = 0;
    private int where = NONE;
    private boolean whereOpen = false;
    private boolean roughOpen = false;

    NaiveMender() {
        told.put(4, new TreeMap<>());
        told.put(5, new TreeMap<>());
    }

    static boolean isLetter(int n) {
        return n >= 0 && n <= 65535 && !(n >= 55296 && n <= 57343);
    }

    static boolean isCode(int code) {
        return code >= 0 && code <= 5;
    }

    // ---- what the document leaves open

    /** The latest call had several grounds to be refused, and it is not said which of them is asked first. */
    boolean whereOpen() {
        return whereOpen;
    }

    /** MARKS that were in THE TEXT were READ again: whether they "came" is not said. */
    boolean roughOpen() {
        return roughOpen;
    }

    /** Costs or TOLD CODES were told since rows(): only THE TEXT and THE LIST are said to be as they were. */
    boolean rowOpen(int what) {
        return (what == 4 || what == 5) && tables != rowsTables;
    }

    boolean choiceOpen(int what) {
        return (what == 2 || what == 3) && tables != choicesTables;
    }

    /** A CHOICE that is there but not told; or what was emptied since choices() had been empty. */
    boolean chosenOpen(int i) {
        boolean notTold = i >= 200 && i < choicesTold.size();
        return version == choicesVersion && (notTold || emptied != choicesEmptied);
    }

    private void tellWhere(int place, boolean open) {
        where = place;
        whereOpen = open;
    }

    // ---- codes

    /** The bytes of a LETTER, or null. */
    private List<Integer> bytesOf(int code, int letter) {
        if (!isLetter(letter)) {
            return null;
        }
        switch (code) {
            case 0:
                return letter < 128 ? List.of(letter) : null;
            case 1:
                return letter < 256 ? List.of(letter) : null;
            case 2:
                List<Integer> out = new ArrayList<>();
                for (byte b : new String(new char[] {(char) letter}).getBytes(java.nio.charset.StandardCharsets.UTF_8)) {
                    out.add(b & 255);
                }
                return out;
            case 3:
                if (letter < 128 && letter != '&') {
                    return List.of(letter);
                }
                List<Integer> signs = new ArrayList<>();
                for (char c : ("&#" + letter + ";").toCharArray()) {
                    signs.add((int) c);
                }
                return signs;
            default:
                for (Map.Entry<Integer, Integer> e : told.get(code).entrySet()) {
                    if (e.getValue() == letter) {
                        return List.of(e.getKey());
                    }
                }
                return null;
        }
    }

    private Outcome written(int code, List<Integer> from) {
        List<Integer> out = new ArrayList<>();
        for (int i = 0; i < from.size(); i++) {
            List<Integer> bytes = bytesOf(code, from.get(i));
            if (bytes == null) {
                return new Outcome(out, i);
            }
            out.addAll(bytes);
        }
        return new Outcome(out, NONE);
    }

    /** The LETTER at the front of these bytes (that a prefix of them is WRITTEN as), or NONE. */
    private int letterAt(int code, List<Integer> bytes, int p) {
        for (int n = 1; n <= 8 && p + n <= bytes.size(); n++) {
            List<Integer> head = bytes.subList(p, p + n);
            int guess = guess(code, head);
            if (guess != NONE && head.equals(bytesOf(code, guess))) {
                return guess;
            }
        }
        return NONE;
    }

    /** The one LETTER that could be WRITTEN as just these bytes. */
    private int guess(int code, List<Integer> head) {
        int n = head.size();
        switch (code) {
            case 0:
            case 1:
                return n == 1 ? head.get(0) : NONE;
            case 2:
                if (n == 1) {
                    return head.get(0);
                }
                int sum = n == 2 ? head.get(0) - 192 : n == 3 ? head.get(0) - 224 : NONE;
                for (int i = 1; i < n; i++) {
                    sum = sum * 64 + head.get(i) - 128;
                }
                return n > 3 || sum < 0 ? NONE : sum;
            case 3:
                StringBuilder s = new StringBuilder();
                for (int b : head) {
                    s.append((char) b);
                }
                if (n == 1) {
                    return head.get(0);
                }
                return s.toString().matches("&#[0-9]{1,5};") ? Integer.parseInt(s.substring(2, n - 1)) : NONE;
            default:
                return n == 1 ? told.get(code).getOrDefault(head.get(0), NONE) : NONE;
        }
    }

    private Outcome read(int code, List<Integer> bytes, boolean roughly) {
        List<Integer> out = new ArrayList<>();
        int p = 0;
        while (p < bytes.size()) {
            int letter = letterAt(code, bytes, p);
            if (letter == NONE) {
                if (!roughly) {
                    return new Outcome(out, p);
                }
                out.add(MARK);
                p++;
            } else {
                out.add(letter);
                p += bytesOf(code, letter).size();
            }
        }
        return new Outcome(out, NONE);
    }

    /** null if it CAN not be DONE; sets where. */
    private List<Integer> done(int a, int b, List<Integer> from) {
        tellWhere(NONE, false);
        Outcome w = written(a, from);
        if (!w.good()) {
            tellWhere(w.fault(), false);
            return null;
        }
        Outcome r = read(b, w.numbers(), false);
        if (!r.good()) {
            tellWhere(r.fault(), w.numbers().size() > 900 || r.numbers().size() >= 300);
            return null;
        }
        return r.numbers().size() > 300 || w.numbers().size() > 900 ? null : r.numbers();
    }

    private List<Integer> doneRoughly(int a, int b, List<Integer> from) {
        tellWhere(NONE, false);
        Outcome w = written(a, from);
        if (!w.good()) {
            tellWhere(w.fault(), false);
            return null;
        }
        Outcome r = read(b, w.numbers(), true);
        return r.numbers().size() > 300 || w.numbers().size() > 900 ? null : r.numbers();
    }

    private List<Integer> undone(int a, int b, List<Integer> from) {
        List<Integer> before = done(b, a, from);
        if (before == null) {
            return null;
        }
        List<Integer> again = done(a, b, before);
        tellWhere(NONE, false);
        return from.equals(again) ? before : null;
    }

    private int become(List<Integer> next) {
        changes.addLast(text);
        if (changes.size() > 20) {
            changes.removeFirst();
        }
        text = new ArrayList<>(next);
        version++;
        return text.size();
    }

    private static int marks(List<Integer> of) {
        int n = 0;
        for (int l : of) {
            n += l == MARK ? 1 : 0;
        }
        return n;
    }

    // ---- texts, codes

    int feed(int a, int b, int c, int d, int e) {
        if (tape.size() + 5 > 900) {
            return NONE;
        }
        tape.addAll(List.of(a, b, c, d, e));
        return tape.size();
    }

    boolean end(int n) {
        if (n < 0 || n > tape.size()) {
            return false;
        }
        tape = new ArrayList<>(tape.subList(0, n));
        return true;
    }

    int text() {
        tellWhere(NONE, false);
        List<Integer> was = tape;
        tape = new ArrayList<>();
        if (was.size() > 300) {
            return NONE;
        }
        for (int i = 0; i < was.size(); i++) {
            if (!isLetter(was.get(i))) {
                tellWhere(i, false);
                return NONE;
            }
        }
        return become(was);
    }

    int read(int code) {
        List<Integer> was = tape;
        tape = new ArrayList<>();
        int bytes = 0;
        while (bytes < was.size() && was.get(bytes) >= 0 && was.get(bytes) <= 255) {
            bytes++;
        }
        boolean noByte = bytes < was.size();
        if (!isCode(code)) {
            tellWhere(NONE, noByte);
            return NONE;
        }
        Outcome r = read(code, was.subList(0, bytes), false);
        boolean tooMany = r.numbers().size() >= 300;
        if (noByte) {
            tellWhere(bytes, tooMany || !r.good());
            return NONE;
        }
        tellWhere(r.fault(), tooMany && !r.good());
        return !r.good() || r.numbers().size() > 300 ? NONE : become(r.numbers());
    }

    int span(int code, int from, int n, int letter, int step) {
        tellWhere(NONE, false);
        if (code != 4 && code != 5 || n < 1 || n > 256 || step < -255 || step > 255) {
            return NONE;
        }
        TreeMap<Integer, Integer> next = new TreeMap<>(told.get(code));
        for (int i = 0; i < n; i++) {
            long b = (long) from + i;
            long l = letter + (long) i * step;
            if (b < 0 || b > 255 || l < 0 || l > 65535 || !isLetter((int) l)) {
                return NONE;
            }
            if (next.containsKey((int) b) || next.containsValue((int) l)) {
                return NONE;
            }
            next.put((int) b, (int) l);
        }
        told.put(code, next);
        version++;
        tables++;
        return next.size();
    }

    boolean blank(int code) {
        if (code != 4 && code != 5) {
            return false;
        }
        version += told.get(code).isEmpty() ? 0 : 1;
        told.put(code, new TreeMap<>());
        emptied++;
        tables++;
        return true;
    }

    int count(int what) {
        int[] all = {text.size(), tape.size(), list.size(), changes.size(), marks(text), costs.size(),
            told.get(4).size(), told.get(5).size()};
        return what >= 0 && what < all.length ? all[what] : NONE;
    }

    int at(int i) {
        if (i < 0 || i >= text.size()) {
            throw new NoSuchElementException();
        }
        return text.get(i);
    }

    int size(int code) {
        tellWhere(NONE, false);
        if (!isCode(code)) {
            return NONE;
        }
        Outcome w = written(code, text);
        tellWhere(w.fault(), false);
        return w.good() ? w.numbers().size() : NONE;
    }

    int byteOf(int code, int i) {
        int n = size(code);
        return i >= 0 && i < n ? written(code, text).numbers().get(i) : NONE;
    }

    int where() {
        return where;
    }

    // ---- harms

    int harm(int a, int b) {
        tellWhere(NONE, false);
        List<Integer> next = isCode(a) && isCode(b) ? done(a, b, text) : null;
        return next == null ? NONE : become(next);
    }

    int rough(int a, int b) {
        tellWhere(NONE, false);
        roughOpen = false;
        List<Integer> next = isCode(a) && isCode(b) ? doneRoughly(a, b, text) : null;
        if (next == null) {
            return NONE;
        }
        List<Integer> bytes = written(a, text).numbers();
        int came = 0;
        for (int p = 0; p < bytes.size();) {
            int letter = letterAt(b, bytes, p);
            came += letter == NONE ? 1 : 0;
            p += letter == NONE ? 1 : bytesOf(b, letter).size();
        }
        roughOpen = came != marks(next);
        become(next);
        return came;
    }

    int undo(int a, int b) {
        tellWhere(NONE, false);
        List<Integer> next = isCode(a) && isCode(b) ? undone(a, b, text) : null;
        return next == null ? NONE : become(next);
    }

    /** By trying all texts of one LETTER that a has, and of two of some. */
    int safe(int a, int b) {
        tellWhere(NONE, false);
        if (!isCode(a) || !isCode(b)) {
            return NONE;
        }
        List<Integer> some = new ArrayList<>();
        for (int l = 0; l <= 65535; l++) {
            List<Integer> bytes = bytesOf(a, l);
            if (bytes != null) {
                if (!read(b, bytes, false).good()) {
                    return 0;
                }
                if (some.size() < 300 || l % 997 == 0) {
                    some.add(l);
                }
            }
        }
        for (int i = 0; i < some.size(); i += 7) {
            for (int j = 0; j < some.size(); j += 5) {
                if (!read(b, written(a, List.of(some.get(i), some.get(j))).numbers(), false).good()) {
                    return 0;
                }
            }
        }
        return 1;
    }

    int back() {
        if (changes.isEmpty()) {
            return NONE;
        }
        text = changes.removeLast();
        version++;
        return changes.size();
    }

    // ---- rows of harms

    int list(int a, int b) {
        tellWhere(NONE, false);
        if (!isCode(a) || !isCode(b) || list.size() == 6 || list.contains(new Harm(a, b))) {
            return NONE;
        }
        list.add(new Harm(a, b));
        version++;
        return list.size() - 1;
    }

    int unlist() {
        int had = list.size();
        list.clear();
        version += had > 0 ? 1 : 0;
        emptied++;
        return had;
    }

    private List<RowFound> findRows(int n) {
        List<RowFound> out = new ArrayList<>();
        List<List<Integer>> now = new ArrayList<>();
        now.add(List.of());
        for (int length = 1; length <= n; length++) {
            List<List<Integer>> next = new ArrayList<>();
            for (List<Integer> head : now) {
                for (int h = 0; h < list.size(); h++) {
                    List<Integer> row = new ArrayList<>(head);
                    row.add(h);
                    next.add(row);
                    List<Integer> t = text;
                    for (int k = length - 1; k >= 0 && t != null; k--) {
                        Harm harm = list.get(row.get(k));
                        t = undone(harm.a(), harm.b(), t);
                    }
                    if (t != null) {
                        out.add(new RowFound(row, costOf(t), t));
                    }
                }
            }
            now = next;
        }
        tellWhere(NONE, false);
        return out;
    }

    int rows(int n) {
        tellWhere(NONE, false);
        if (n < 1 || n > 3) {
            return NONE;
        }
        rowsTold = findRows(n);
        rowsTables = tables;
        return rowsTold.size();
    }

    int row(int i, int what) {
        if (i < 0 || i >= rowsTold.size()) {
            return NONE;
        }
        RowFound r = rowsTold.get(i);
        switch (what) {
            case 0:
                return r.harms().size();
            case 1:
            case 2:
            case 3:
                return what <= r.harms().size() ? r.harms().get(what - 1) : NONE;
            case 4:
                return r.cost();
            case 5:
                return r.text().size();
            default:
                return NONE;
        }
    }

    // ---- costs

    boolean cost(int x, int y, int v) {
        if (!isLetter(x) || !isLetter(y) || v < 0 || v > 200) {
            return false;
        }
        if (costs.size() == 300 && !costs.containsKey(List.of(x, y))) {
            return false;
        }
        costs.put(List.of(x, y), v);
        version++;
        tables++;
        return true;
    }

    private static int sort(int l) {
        if (l >= 'a' && l <= 'z') {
            return 1;
        }
        if (l >= 'A' && l <= 'Z') {
            return 2;
        }
        if (l >= '0' && l <= '9') {
            return 3;
        }
        if (l == ' ') {
            return 4;
        }
        if (l >= 33 && l <= 126) {
            return 5;
        }
        if (l >= 192 && l <= 591 && l != 215 && l != 247) {
            return 6;
        }
        return l >= 880 && l <= 1327 ? 7 : 0;
    }

    private int costOf(List<Integer> t) {
        List<Integer> all = new ArrayList<>(t);
        all.add(0, 32);
        all.add(32);
        int sum = 0;
        for (int i = 0; i + 1 < all.size(); i++) {
            int x = all.get(i);
            int y = all.get(i + 1);
            Integer v = costs.get(List.of(x, y));
            sum += v != null ? v : (sort(x) == sort(y) ? 4 : 9) + (sort(x) == 0 ? 30 : 0) + (sort(y) == 0 ? 30 : 0);
        }
        return sum;
    }

    int worth() {
        return costOf(text);
    }

    int mend(int n, int gain) {
        tellWhere(NONE, false);
        if (n < 1 || n > 3 || gain < 1 || gain > 100000) {
            return NONE;
        }
        List<RowFound> found = findRows(n);
        int best = NONE;
        for (int i = 0; i < found.size(); i++) {
            if (best == NONE || found.get(i).cost() < found.get(best).cost()) {
                best = i;
            }
        }
        if (best == NONE || worth() - found.get(best).cost() < gain) {
            return NONE;
        }
        become(found.get(best).text());
        return best;
    }

    /** Whether x stands ahead of y, by all that the document tells. */
    private static boolean ahead(Parting x, Parting y) {
        if (x.cost() != y.cost()) {
            return x.cost() < y.cost();
        }
        if (x.parts().size() != y.parts().size()) {
            return x.parts().size() < y.parts().size();
        }
        for (int i = 0; i < x.parts().size(); i++) {
            if (x.parts().get(i).end() != y.parts().get(i).end()) {
                return x.parts().get(i).end() > y.parts().get(i).end();
            }
            if (x.parts().get(i).harm() != y.parts().get(i).harm()) {
                return x.parts().get(i).harm() < y.parts().get(i).harm();
            }
        }
        return false;
    }

    private List<Part> partsFrom(int from) {
        List<Part> out = new ArrayList<>();
        for (int end = from + 1; end <= text.size(); end++) {
            List<Integer> piece = text.subList(from, end);
            out.add(new Part(end, NONE, piece));
            for (int h = 0; h < list.size(); h++) {
                List<Integer> t = undone(list.get(h).a(), list.get(h).b(), piece);
                if (t != null) {
                    out.add(new Part(end, h, t));
                }
            }
        }
        tellWhere(NONE, false);
        return out;
    }

    /** Every parting of what stands from a place on, one by one: for short texts alone. */
    private Parting bestOfAll(int from, int price, Parting head, Parting best) {
        if (from == text.size()) {
            return best == null || ahead(head, best) ? head : best;
        }
        Parting now = best;
        for (Part part : partsFrom(from)) {
            List<Part> parts = new ArrayList<>(head.parts());
            parts.add(part);
            int sum = head.cost() + costOf(part.text()) + (parts.size() > 1 ? price : 0);
            now = bestOfAll(part.end(), price, new Parting(sum, parts), now);
        }
        return now;
    }

    private Parting bestByEnds(int price) {
        Parting[] best = new Parting[text.size() + 1];
        best[text.size()] = new Parting(0, List.of());
        for (int from = text.size() - 1; from >= 0; from--) {
            for (Part part : partsFrom(from)) {
                List<Part> parts = new ArrayList<>();
                parts.add(part);
                parts.addAll(best[part.end()].parts());
                int sum = costOf(part.text()) + best[part.end()].cost() + (part.end() < text.size() ? price : 0);
                Parting next = new Parting(sum, parts);
                if (best[from] == null || ahead(next, best[from])) {
                    best[from] = next;
                }
            }
        }
        return best[0];
    }

    int parts(int price) {
        tellWhere(NONE, false);
        if (text.isEmpty() || text.size() > 60 || price < 0 || price > 1000) {
            return NONE;
        }
        boolean isShort = text.size() <= (list.size() <= 2 ? 6 : 4);
        Parting best = isShort ? bestOfAll(0, price, new Parting(0, List.of()), null) : bestByEnds(price);
        List<Integer> all = new ArrayList<>();
        for (Part part : best.parts()) {
            all.addAll(part.text());
        }
        if (all.size() > 300) {
            return NONE;
        }
        become(all);
        return best.parts().size();
    }

    // ---- marks

    private void tryChoice(int a, int b, int first, int second, List<ChoiceFound> out) {
        List<Integer> bytes = new ArrayList<>();
        int seen = 0;
        for (int l : text) {
            if (l == MARK) {
                bytes.add(seen == 0 ? first : second);
                seen++;
            } else {
                bytes.addAll(bytesOf(b, l));
            }
        }
        Outcome r = read(a, bytes, false);
        if (r.good() && r.numbers().size() <= 300 && text.equals(doneRoughly(a, b, r.numbers()))) {
            out.add(new ChoiceFound(first, second, costOf(r.numbers()), r.numbers()));
        }
    }

    /** The place of the first LETTER but the MARK that a CODE has not. */
    private int missing(int code) {
        for (int i = 0; i < text.size(); i++) {
            if (text.get(i) != MARK && bytesOf(code, text.get(i)) == null) {
                return i;
            }
        }
        return NONE;
    }

    int choices(int a, int b) {
        int marks = marks(text);
        int missing = isCode(b) ? missing(b) : NONE;
        if (marks < 1 || marks > 2 || !isCode(a) || !isCode(b) || text.size() > 100) {
            tellWhere(NONE, missing != NONE);
            return NONE;
        }
        tellWhere(missing, false);
        if (missing != NONE) {
            return NONE;
        }
        List<ChoiceFound> found = new ArrayList<>();
        for (int x = 0; x < 256; x++) {
            if (letterAt(b, List.of(x), 0) != NONE) {
                continue;
            }
            if (marks == 1) {
                tryChoice(a, b, x, NONE, found);
            }
            for (int y = 0; y < 256 && marks == 2; y++) {
                if (letterAt(b, List.of(y), 0) == NONE) {
                    tryChoice(a, b, x, y, found);
                }
            }
        }
        tellWhere(NONE, false);
        found.sort(Comparator.comparingInt(ChoiceFound::cost).thenComparingInt(ChoiceFound::first)
            .thenComparingInt(ChoiceFound::second));
        choicesTold = found;
        choicesVersion = version;
        choicesEmptied = emptied;
        choicesTables = tables;
        return found.size();
    }

    int choice(int i, int what) {
        if (i < 0 || i >= Math.min(200, choicesTold.size())) {
            return NONE;
        }
        ChoiceFound c = choicesTold.get(i);
        int[] all = {c.first(), c.second(), c.cost(), c.text().size()};
        return what >= 0 && what < all.length ? all[what] : NONE;
    }

    boolean chosen(int i) {
        if (i < 0 || i >= Math.min(200, choicesTold.size()) || version != choicesVersion) {
            return false;
        }
        become(choicesTold.get(i).text());
        return true;
    }
}
