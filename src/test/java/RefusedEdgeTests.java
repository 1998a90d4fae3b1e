import java.util.ArrayList;
import java.util.List;

/**
 * Of each call that can be refused, each way in which it is: it changes nothing. Two objects are brought to the
 * same state, one of them has the refused call, and then both are asked for all that they hold.
 */
public final class RefusedEdgeTests extends Due {
    private static final int[] BAD_LETTERS = {-1, 55296, 57343, 65536, Integer.MIN_VALUE, Integer.MAX_VALUE};

    public static void main(String[] args) {
        richHasAll();
        refusedTapes();
        refusedTexts();
        refusedReads();
        refusedSpans();
        refusedBlanks();
        refusedTold();
        refusedHarms();
        refusedLists();
        refusedCosts();
        refusedMendsAndParts();
        refusedChoices();
        refusedLongTexts();
        whereOtherwise();
        whereNotRefused();
        tellAndEnd();
    }

    // ---- the two objects

    /** Something of all that an object can hold: told rows, told CHOICES that can be chosen, changes, a FAULT. */
    private static TextMender rich() {
        TextMender x = with("x");
        put(x, 99, 195, 169, MARK);
        x.text();
        x.list(2, 2);
        x.list(2, 1);
        x.list(4, 5);
        x.span(4, 10, 3, 1000, 7);
        x.span(5, 20, 2, 195, -26);
        x.cost(99, 195, 11);
        x.cost(32, 99, 12);
        x.rows(2);
        x.choices(1, 2);
        x.feed(5, 4, 3, 2, 1);
        x.size(1);
        return x;
    }

    private static void richHasAll() {
        int[] want = {4, 5, 3, 2, 1, 2, 3, 2};
        TextMender x = rich();
        for (int what = 0; what <= 7; what++) {
            due("count(" + what + ")", x.count(what), want[what]);
        }
        due("a row", x.row(0, 0), 1);
        due("another row", x.row(1, 0), 2);
        due("a choice", x.choice(127, 0) != NONE, true);
        due("a fault", x.where(), 3);
        due("chosen", x.chosen(3), true);
        due("parts", x.parts(0), 2);
        due("a letter of code 5", x.span(5, 22, 1, 195, 0), NONE);
    }

    private static void lookAt(TextMender x, List<Long> out) {
        for (int what = 0; what <= 7; what++) {
            out.add((long) x.count(what));
        }
        for (int i = 0; i < Math.min(5, x.count(0)); i++) {
            out.add((long) x.at(i));
        }
        out.add((long) x.worth());
        for (int what = 0; what <= 5; what++) {
            out.add((long) x.row(0, what));
            out.add((long) x.row(1, what));
        }
        for (int what = 0; what <= 3; what++) {
            out.add((long) x.choice(0, what));
            out.add((long) x.choice(127, what));
        }
    }

    /** All that it holds: what it tells at once, and what later calls make of it. */
    private static List<Long> all(TextMender x) {
        List<Long> out = new ArrayList<>();
        lookAt(x, out);
        out.add(x.chosen(3) ? 1L : 0L);
        lookAt(x, out);
        out.add((long) x.back());
        out.add((long) x.rows(3));
        lookAt(x, out);
        out.add((long) x.parts(0));
        lookAt(x, out);
        out.add((long) x.text());
        out.add((long) x.harm(4, 5));
        lookAt(x, out);
        for (int code = 4; code <= 5; code++) {
            for (int value = 9; value <= 22; value++) {
                put(x, value);
                out.add((long) x.read(code));
                out.add(x.count(0) > 0 ? (long) x.at(0) : NONE);
            }
        }
        for (int i = 0; i < 21; i++) {
            out.add((long) x.back());
        }
        return out;
    }

    private static void dueNothing(String what, long refused, Call call) {
        TextMender x = rich();
        TextMender y = rich();
        due(what, call.on(x), refused);
        due(what + " changes nothing", all(x).equals(all(y)), true);
    }

    private static void dueNone(String what, Call call) {
        dueNothing(what, NONE, call);
    }

    private static void dueFalse(String what, Call call) {
        dueNothing(what, 0, call);
    }

    private static long of(boolean b) {
        return b ? 1 : 0;
    }

    // ---- texts, codes

    private static void refusedTapes() {
        says("Terms 4", "Refused calls answer NONE, or false, and change nothing but what where() tells");
        for (int n : new int[] {-1, 6, 900, Integer.MIN_VALUE, Integer.MAX_VALUE}) {
            dueFalse("end(" + n + ")", x -> of(x.end(n)));
        }
        TextMender x = rich();
        TextMender y = rich();
        for (TextMender each : new TextMender[] {x, y}) {
            put(each, same(895, 97));
        }
        due("feed()", x.feed(7, 7, 7, 7, 7), 900);
        due("feed()", y.feed(7, 7, 7, 7, 7), 900);
        due("feed()", x.feed(8, 8, 8, 8, 8), NONE);
        due("feed() changes nothing", x.count(1), 900);
        List<Long> ofX = new ArrayList<>();
        List<Long> ofY = new ArrayList<>();
        lookAt(x, ofX);
        lookAt(y, ofY);
        due("feed() changes nothing", ofX.equals(ofY), true);
        x.end(300);
        due("feed() changes nothing", x.text(), 300);
    }

    /** THE TAPE, which is empty then: that is all that goes. */
    private static void dueTapeAlone(String what, Call call, int... tape) {
        TextMender x = rich();
        TextMender y = rich();
        x.end(0);
        y.end(0);
        put(x, tape);
        due(what, call.on(x), NONE);
        due(what + " changes nothing but the tape", all(x).equals(all(y)), true);
    }

    /** Whether THE TAPE goes, too, is not asked here. */
    private static void dueNothingOf301(String what, Call call) {
        TextMender x = rich();
        TextMender y = rich();
        x.end(0);
        y.end(0);
        put(x, same(301, 97));
        due(what, call.on(x), NONE);
        x.end(0);
        due(what + " changes nothing but the tape", all(x).equals(all(y)), true);
    }

    private static void refusedTexts() {
        says("Terms 4", "Refused calls answer NONE, or false, and change nothing but what where() tells");
        dueNothingOf301("text() of 301", TextMender::text);
        for (int bad : BAD_LETTERS) {
            dueTapeAlone("text() of " + bad, TextMender::text, 97, bad);
        }
    }

    private static void refusedReads() {
        says("Terms 4", "Refused calls answer NONE, or false, and change nothing but what where() tells");
        for (int code : NO_CODES) {
            dueTapeAlone("read(" + code + ")", x -> x.read(code), 97);
        }
        dueTapeAlone("read(1) of 256", x -> x.read(1), 97, 256);
        dueTapeAlone("read(1) of -1", x -> x.read(1), 97, -1);
        dueTapeAlone("read(2) of what is cut", x -> x.read(2), 97, 195);
        dueNothingOf301("read(1) of 301", x -> x.read(1));
    }

    private static void refusedSpans() {
        says("Terms 4", "Refused calls answer NONE, or false, and change nothing but what where() tells");
        int[][] refused = {
            {3, 0, 1, 500, 0}, {6, 0, 1, 500, 0}, {4, -1, 1, 500, 0}, {4, 256, 1, 500, 0}, {4, 250, 7, 500, 1},
            {4, 0, 0, 500, 1}, {4, 0, -1, 500, 1}, {4, 0, 1, -1, 0}, {4, 0, 1, 65536, 0}, {4, 0, 2, 55295, 1},
            {4, 0, 2, 65535, 1}, {4, 0, 2, 0, -1}, {4, 0, 2, 500, 256}, {4, 0, 2, 5000, -256}, {4, 0, 2, 500, 0},
            {4, 9, 2, 500, 1}, {4, 12, 2, 500, 1}, {4, 0, 2, 999, 1}, {4, 0, 2, 1014, 1}, {5, 20, 1, 500, 0},
            {5, 22, 1, 195, 0}, {5, 22, 2, 170, -1}};
        for (int[] r : refused) {
            dueNone("span(" + java.util.Arrays.toString(r) + ")", x -> x.span(r[0], r[1], r[2], r[3], r[4]));
        }
    }

    private static void refusedBlanks() {
        says("Terms 4", "Refused calls answer NONE, or false, and change nothing but what where() tells");
        for (int code : new int[] {0, 3, 6, -1, Integer.MIN_VALUE, Integer.MAX_VALUE}) {
            dueFalse("blank(" + code + ")", x -> of(x.blank(code)));
        }
    }

    private static void refusedTold() {
        says("Terms 4", "Refused calls answer NONE, or false, and change nothing but what where() tells");
        for (int code : NO_CODES) {
            dueNone("size(" + code + ")", x -> x.size(code));
            dueNone("byteOf(" + code + ", 0)", x -> x.byteOf(code, 0));
        }
        dueNone("size(0)", x -> x.size(0));
        dueNone("byteOf(0, 0)", x -> x.byteOf(0, 0));
        dueNone("byteOf(2, 99)", x -> x.byteOf(2, 99));
        dueNone("count(8)", x -> x.count(8));
        dueNone("row(0, 6)", x -> x.row(0, 6));
        dueNone("row(999, 0)", x -> x.row(999, 0));
        dueNone("choice(0, 4)", x -> x.choice(0, 4));
        dueNone("choice(999, 0)", x -> x.choice(999, 0));
        TextMender x = rich();
        dueNoLetter(x, 4);
        dueNoLetter(x, -1);
        due("at(4) changes nothing", all(x).equals(all(rich())), true);
    }

    // ---- harms, rows of harms

    private static void refusedHarms() {
        says("Terms 4", "Refused calls answer NONE, or false, and change nothing but what where() tells");
        for (int code : NO_CODES) {
            dueNone("harm(" + code + ", 2)", x -> x.harm(code, 2));
            dueNone("harm(2, " + code + ")", x -> x.harm(2, code));
            dueNone("rough(" + code + ", 2)", x -> x.rough(code, 2));
            dueNone("rough(2, " + code + ")", x -> x.rough(2, code));
            dueNone("undo(" + code + ", 2)", x -> x.undo(code, 2));
            dueNone("undo(2, " + code + ")", x -> x.undo(2, code));
            dueNone("safe(" + code + ", 2)", x -> x.safe(code, 2));
            dueNone("safe(2, " + code + ")", x -> x.safe(2, code));
        }
        dueNone("harm(1, 2)", x -> x.harm(1, 2));
        dueNone("harm(2, 0)", x -> x.harm(2, 0));
        dueNone("rough(1, 2)", x -> x.rough(1, 2));
        dueNone("undo(2, 1)", x -> x.undo(2, 1));
        dueNone("undo(0, 2)", x -> x.undo(0, 2));
    }

    private static void refusedLists() {
        says("Terms 4", "Refused calls answer NONE, or false, and change nothing but what where() tells");
        for (int code : NO_CODES) {
            dueNone("list(" + code + ", 2)", x -> x.list(code, 2));
            dueNone("list(2, " + code + ")", x -> x.list(2, code));
        }
        dueNone("list(2, 1)", x -> x.list(2, 1));
        for (int n : new int[] {0, 4, -1, Integer.MIN_VALUE, Integer.MAX_VALUE}) {
            dueNone("rows(" + n + ")", x -> x.rows(n));
        }
        TextMender x = rich();
        TextMender y = rich();
        for (TextMender each : new TextMender[] {x, y}) {
            each.list(0, 1);
            each.list(1, 0);
            each.list(1, 1);
            each.choices(1, 2);
        }
        due("a seventh", x.list(0, 0), NONE);
        due("a seventh changes nothing", all(x).equals(all(y)), true);
    }

    // ---- costs

    private static void refusedCosts() {
        says("Terms 4", "Refused calls answer NONE, or false, and change nothing but what where() tells");
        for (int v : new int[] {-1, 201, Integer.MIN_VALUE, Integer.MAX_VALUE}) {
            dueFalse("cost(99, 195, " + v + ")", x -> of(x.cost(99, 195, v)));
            dueFalse("cost(195, 169, " + v + ")", x -> of(x.cost(195, 169, v)));
        }
        for (int bad : BAD_LETTERS) {
            dueFalse("cost(99, " + bad + ", 5)", x -> of(x.cost(99, bad, 5)));
            dueFalse("cost(" + bad + ", 99, 5)", x -> of(x.cost(bad, 99, 5)));
        }
    }

    private static void refusedMendsAndParts() {
        says("Terms 4", "Refused calls answer NONE, or false, and change nothing but what where() tells");
        for (int n : new int[] {0, 4, -1, Integer.MIN_VALUE, Integer.MAX_VALUE}) {
            dueNone("mend(" + n + ", 1)", x -> x.mend(n, 1));
        }
        for (int gain : new int[] {0, -1, 100001, Integer.MIN_VALUE, Integer.MAX_VALUE}) {
            dueNone("mend(3, " + gain + ")", x -> x.mend(3, gain));
        }
        dueNone("mend(3, 1)", x -> x.mend(3, 1));
        for (int price : new int[] {-1, 1001, Integer.MIN_VALUE, Integer.MAX_VALUE}) {
            dueNone("parts(" + price + ")", x -> x.parts(price));
        }
    }

    // ---- marks

    private static void refusedChoices() {
        says("Terms 4", "Refused calls answer NONE, or false, and change nothing but what where() tells");
        for (int code : NO_CODES) {
            dueNone("choices(" + code + ", 2)", x -> x.choices(code, 2));
            dueNone("choices(2, " + code + ")", x -> x.choices(2, code));
        }
        dueNone("choices(1, 0)", x -> x.choices(1, 0));
        dueNone("choices(1, 4)", x -> x.choices(1, 4));
        for (int i : new int[] {-1, 128, 200, Integer.MIN_VALUE, Integer.MAX_VALUE}) {
            dueFalse("chosen(" + i + ")", x -> of(x.chosen(i)));
        }
    }

    /** What is refused of a text for its length, or for its MARKS; told rows and CHOICES are those of before. */
    private static void refusedLongTexts() {
        says("Terms 4", "Refused calls answer NONE, or false, and change nothing but what where() tells");
        dueNothingOf(same(151, 233), x -> x.harm(2, 1));
        dueNothingOf(same(151, 233), x -> x.undo(1, 2));
        dueNothingOf(same(151, 233), x -> x.rough(2, 0));
        dueNothingOf(same(113, 65535), x -> x.harm(3, 3));
        dueNothingOf(same(113, 65535), x -> x.undo(3, 3));
        dueNothingOf(same(113, 65535), x -> x.rough(3, 3));
        dueNothingOf(same(61, 97), x -> x.parts(0));
        dueNothingOf(new int[0], x -> x.parts(0));
        dueNothingOf(joined(same(100, 97), MARK), x -> x.choices(1, 0));
        dueNothingOf(new int[] {97}, x -> x.choices(1, 0));
        dueNothingOf(new int[] {MARK, MARK, MARK}, x -> x.choices(1, 0));
        dueNothingOf(new int[] {MARK}, x -> of(x.chosen(0)) - 1);
    }

    private static void dueNothingOf(int[] letters, Call call) {
        TextMender x = rich();
        TextMender y = rich();
        for (TextMender each : new TextMender[] {x, y}) {
            each.end(0);
            put(each, letters);
            each.text();
        }
        due("of " + letters.length + " letters", call.on(x), NONE);
        due("of " + letters.length + " letters, nothing changes", all(x).equals(all(y)), true);
    }

    // ---- where()

    private static void dueWhere(String what, int want, Call call) {
        TextMender x = rich();
        due("a fault of before", x.where(), 3);
        call.on(x);
        due(what + ", where()", x.where(), want);
    }

    private static void whereOtherwise() {
        says("Terms 4", "the place of the FAULT (of READ: of the byte), or NONE, if it was refused otherwise, or not at all");
        dueWhere("a fault of written", 1, x -> x.size(0));
        dueWhere("a fault of written", 1, x -> x.harm(0, 1));
        dueWhere("a fault of read", 1, x -> x.harm(2, 0));
        dueWhere("a fault of read", 1, x -> x.harm(2, 3));
        dueWhere("a letter that b has not", 1, x -> x.choices(1, 0));
        dueWhere("no code", NONE, x -> x.size(6));
        dueWhere("no code", NONE, x -> x.harm(0, 6));
        dueWhere("no code", NONE, x -> x.harm(6, 0));
        dueWhere("no code", NONE, x -> x.rough(0, 6));
        dueWhere("no code", NONE, x -> x.undo(6, 0));
        dueWhere("no code", NONE, x -> x.list(6, 0));
        dueWhere("no code", NONE, x -> x.choices(1, 6));
        dueWhere("another n", NONE, x -> x.rows(0));
        dueWhere("another gain", NONE, x -> x.mend(1, 0));
        dueWhere("another price", NONE, x -> x.parts(-1));
        dueWhere("a byte that it has", NONE, x -> x.span(4, 10, 1, 5, 0));
    }

    private static void whereNotRefused() {
        says("Terms 4", "or NONE, if it was refused otherwise, or not at all");
        dueWhere("text()", NONE, TextMender::text);
        dueWhere("read(0)", NONE, x -> x.read(0));
        dueWhere("span()", NONE, x -> x.span(4, 0, 1, 5, 0));
        dueWhere("size(2)", NONE, x -> x.size(2));
        dueWhere("byteOf(2, 0)", NONE, x -> x.byteOf(2, 0));
        dueWhere("harm(2, 2)", NONE, x -> x.harm(2, 2));
        dueWhere("rough(2, 0)", NONE, x -> x.rough(2, 0));
        dueWhere("undo(2, 2)", NONE, x -> x.undo(2, 2));
        dueWhere("safe(1, 0)", NONE, x -> x.safe(1, 0));
        dueWhere("list(0, 0)", NONE, x -> x.list(0, 0));
        dueWhere("rows(3), though some can not be undone", NONE, x -> x.rows(3));
        dueWhere("mend(3, 1), though some can not be undone", NONE, x -> x.mend(3, 1));
        dueWhere("parts(0), though some can not be undone", NONE, x -> x.parts(0));
        dueWhere("choices(1, 2)", NONE, x -> x.choices(1, 2));
    }
}
