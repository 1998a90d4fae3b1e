/** Each sentence of the promises 13 to 21 (harms, rows of harms) that names an edge: a test of its own. */
public final class HarmEdgeTests extends Due {
    public static void main(String[] args) {
        harmOfNone();
        harmNoCodes();
        harmCanNot();
        harmWhere();
        harmFaultAndMore();
        roughMarks();
        roughNoCodes();
        roughFault();
        roughOver300();
        roughOver900();
        undoOfNone();
        undoNoCodes();
        undoCanNot();
        undoWhere();
        safeWhatever();
        safeLastByte();
        safeLengths();
        safeNoCodes();
        backHowManyMore();
        backNone();
        backAndOn();
        listNumbers();
        listNoCodes();
        listSix();
        listThere();
        unlistHad();
        rowsAtMost();
        rowsNone();
        rowsAnother();
        rowEdges();
        rowNumbers();
        rowAsTheyWere();
        rowNoneSuch();
        rowAnotherWhat();
        tellAndEnd();
    }

    // ---- 13

    private static void harmOfNone() {
        says("13", "A HARM is DONE to THE TEXT: how many LETTERS it has");
        for (int a = 0; a <= 5; a++) {
            for (int b = 0; b <= 5; b++) {
                due("harm(" + a + ", " + b + ") of none", new TextMender().harm(a, b), 0);
            }
        }
        TextMender x = new TextMender();
        x.harm(4, 5);
        due("a change", x.count(3), 1);
        due("of one", with("a").harm(0, 1), 1);
        due("of 300", with(same(300, 97)).harm(0, 1), 300);
    }

    private static void harmNoCodes() {
        says("13", "Refused: no such CODES");
        for (int code : NO_CODES) {
            for (int k = 0; k < 3; k++) {
                TextMender x = with("a\u00e9");
                x.size(0);
                due("code " + code, x.harm(k == 0 ? 1 : code, k == 1 ? 1 : code), NONE);
                due("where()", x.where(), NONE);
                dueText("stays", x, "a\u00e9");
                due("no change", x.count(3), 1);
            }
        }
    }

    private static void harmCanNot() {
        says("13", "or it CAN not");
        TextMender x = with(joined(same(149, 233), 97, 97));
        due("300 letters", x.harm(2, 1), 300);
        x.back();
        put(x, joined(same(150, 233), 97));
        x.text();
        due("301 letters", x.harm(2, 1), NONE);
        due("where()", x.where(), NONE);
        due("stays", x.count(0), 151);
        due("no change", x.count(3), 2);
        TextMender y = with(joined(same(112, 65535), 97, 97, 97, 97, 97));
        due("901 bytes", y.harm(3, 3), NONE);
        due("where()", y.where(), NONE);
        due("stays", y.count(0), 117);
        due("no change", y.count(3), 1);
    }

    private static void harmWhere() {
        says("13", "(where(): of WRITTEN a place of THE TEXT, of READ of the BYTES.)");
        TextMender x = with("\u00e9\u00e9\u0100");
        due("of written", x.harm(1, 2), NONE);
        due("the third letter", x.where(), 2);
        x.span(4, 195, 1, 1000, 0);
        x.span(4, 169, 1, 1001, 0);
        due("of read", x.harm(2, 4), NONE);
        due("the fifth byte", x.where(), 4);
        due("of read", x.harm(3, 4), NONE);
        due("the first byte", x.where(), 0);
    }

    /** A FAULT is told by its place also if there are too many LETTERS or BYTES as well. */
    private static void harmFaultAndMore() {
        says("13", "(where(): of WRITTEN a place of THE TEXT, of READ of the BYTES.)");
        int[] letters = same(150, 233);
        letters[149] = 0x20ac;
        TextMender x = with(letters);
        x.span(4, 195, 1, 1000, 0);
        x.span(4, 169, 1, 1001, 0);
        due("299th byte", x.harm(2, 4), NONE);
        due("299th byte", x.where(), 298);
        TextMender y = with(same(112, 65535));
        due("896 bytes", y.harm(3, 4), NONE);
        due("896 bytes", y.where(), 0);
    }

    // ---- 14

    private static void roughMarks() {
        says("14", "It is DONE ROUGHLY: how many MARKS came");
        TextMender x = with("a\u00e9b\u20ac");
        due("none", x.rough(2, 2), 0);
        due("it is a change", x.count(3), 2);
        due("five", x.rough(2, 0), 5);
        dueText("five", x, "a\ufffd\ufffdb\ufffd\ufffd\ufffd");
        due("of none", new TextMender().rough(4, 5), 0);
        due("300", with(same(300, 255)).rough(1, 0), 300);
        TextMender y = with(MARK, 233);
        y.rough(2, 2);
        due("one that was there is READ again", y.count(4), 1);
    }

    private static void roughNoCodes() {
        says("14", "Refused: no such CODES");
        for (int code : NO_CODES) {
            for (int k = 0; k < 3; k++) {
                TextMender x = with("a\u00e9");
                x.size(0);
                due("code " + code, x.rough(k == 0 ? 1 : code, k == 1 ? 1 : code), NONE);
                due("where()", x.where(), NONE);
                dueText("stays", x, "a\u00e9");
                due("no change", x.count(3), 1);
            }
        }
    }

    private static void roughFault() {
        says("14", "a FAULT of WRITTEN");
        TextMender x = with("ab\u00e9");
        due("rough(0, 1)", x.rough(0, 1), NONE);
        due("where()", x.where(), 2);
        due("rough(4, 1)", x.rough(4, 1), NONE);
        due("where()", x.where(), 0);
        due("no change", x.count(3), 1);
        due("none of read", x.rough(1, 0), 1);
        due("where()", x.where(), NONE);
        dueText("a mark instead", x, "ab\ufffd");
    }

    private static void roughOver300() {
        says("14", "more than 300 LETTERS");
        TextMender x = with(joined(same(99, 0x20ac), 97, 97, 97));
        due("300", x.rough(2, 0), 297);
        due("300", x.count(0), 300);
        TextMender y = with(joined(same(99, 0x20ac), 97, 97, 97, 97));
        due("301", y.rough(2, 0), NONE);
        due("where()", y.where(), NONE);
        due("stays", y.count(0), 103);
        due("no change", y.count(3), 1);
        TextMender z = with(same(300, 65535));
        due("900", z.rough(2, 0), NONE);
    }

    private static void roughOver900() {
        says("14", "900 BYTES");
        TextMender x = with(joined(same(112, 65535), 97, 97, 97, 97));
        due("900", x.rough(3, 3), 0);
        TextMender y = with(joined(same(112, 65535), 97, 97, 97, 97, 97));
        due("901", y.rough(3, 3), NONE);
        due("where()", y.where(), NONE);
        due("stays", y.count(0), 117);
        due("no change", y.count(3), 1);
    }

    // ---- 15

    private static void undoOfNone() {
        says("15", "It is UNDONE: how many LETTERS");
        for (int a = 0; a <= 5; a++) {
            for (int b = 0; b <= 5; b++) {
                due("undo(" + a + ", " + b + ") of none", new TextMender().undo(a, b), 0);
            }
        }
        TextMender x = new TextMender();
        x.undo(4, 5);
        due("a change", x.count(3), 1);
        due("of 300", with(same(300, 97)).undo(0, 1), 300);
    }

    private static void undoNoCodes() {
        says("15", "Refused: no such CODES");
        for (int code : NO_CODES) {
            for (int k = 0; k < 3; k++) {
                TextMender x = with("a\u00e9");
                x.size(0);
                due("code " + code, x.undo(k == 0 ? 1 : code, k == 1 ? 1 : code), NONE);
                due("where()", x.where(), NONE);
                dueText("stays", x, "a\u00e9");
                due("no change", x.count(3), 1);
            }
        }
    }

    private static void undoCanNot() {
        says("15", "or it CAN not");
        due("300 letters", with(joined(same(149, 233), 97, 97)).undo(1, 2), 300);
        TextMender x = with(joined(same(150, 233), 97));
        due("301 letters", x.undo(1, 2), NONE);
        due("where()", x.where(), NONE);
        due("stays", x.count(0), 151);
        due("no change", x.count(3), 1);
        TextMender y = with(joined(same(112, 65535), 97, 97, 97, 97, 97));
        due("901 bytes", y.undo(3, 3), NONE);
        due("where()", y.where(), NONE);
        due("no change", y.count(3), 1);
    }

    private static void undoWhere() {
        says("15", "(where(): as harm(b, a)");
        TextMender x = with("\u00c3\u00a9\u00c3");
        due("of read", x.undo(2, 1), NONE);
        due("of read", x.where(), 2);
        due("of written", x.undo(1, 0), NONE);
        due("of written", x.where(), 0);
        TextMender y = with("ab\u20ac\u00e9");
        for (int a = 0; a <= 5; a++) {
            for (int b = 0; b <= 5; b++) {
                TextMender one = with("ab\u20ac\u00e9");
                TextMender other = with("ab\u20ac\u00e9");
                due("undo(" + a + ", " + b + ")", one.undo(a, b), other.harm(b, a));
                due("where()", one.where(), other.where());
            }
        }
        due("no code tells a letter in two ways: it comes back", y.undo(0, 3), 2 + 7 + 6);
        due("it comes back", y.harm(0, 3), 4);
        dueText("it comes back", y, "ab\u20ac\u00e9");
    }

    // ---- 16

    private static void safeWhatever() {
        says("16", "Whether WRITTEN in a, whatever the text of LETTERS that a has, can always be READ in b");
        int[][] want = {{1, 1, 1, 0}, {0, 1, 0, 0}, {0, 1, 1, 0}, {1, 1, 1, 1}};
        TextMender x = new TextMender();
        for (int a = 0; a < 4; a++) {
            for (int b = 0; b < 4; b++) {
                due("safe(" + a + ", " + b + ")", x.safe(a, b), want[a][b]);
            }
        }
        for (int b = 0; b <= 5; b++) {
            due("of no bytes, safe(4, " + b + ")", x.safe(4, b), 1);
            due("in no bytes, safe(" + b + ", 5)", x.safe(b, 5), b < 4 ? 0 : 1);
        }
        x.span(4, 0, 256, 0, 1);
        for (int a = 0; a <= 5; a++) {
            due("in all bytes, safe(" + a + ", 4)", x.safe(a, 4), 1);
        }
        due("of all bytes", x.safe(4, 1), 1);
        due("of all bytes", x.safe(4, 0), 0);
    }

    /** Code 4 has all bytes but one: what needs that one is not safe. */
    private static void safeLastByte() {
        says("16", "can always be READ in b");
        for (int missing : new int[] {0, 38, 127, 128, 191, 192, 193, 194, 223, 224, 239, 240, 255}) {
            TextMender x = new TextMender();
            if (missing > 0) {
                x.span(4, 0, missing, 0, 1);
            }
            if (missing < 255) {
                x.span(4, missing + 1, 255 - missing, missing + 1, 1);
            }
            x.span(5, missing, 1, missing % 2 == 0 ? 65535 : 0, 0);
            boolean inMany = missing < 192 || missing > 193 && missing < 240;
            due("PLAIN without " + missing, x.safe(0, 4), missing < 128 ? 0 : 1);
            due("WIDE without " + missing, x.safe(1, 4), 0);
            due("MANY without " + missing, x.safe(2, 4), inMany ? 0 : 1);
            due("NUMBERED without " + missing, x.safe(3, 4), missing < 128 ? 0 : 1);
            due("the one alone without " + missing, x.safe(5, 4), 0);
            due(missing + " alone in PLAIN", x.safe(5, 0), missing < 128 ? 1 : 0);
            due(missing + " alone in WIDE", x.safe(5, 1), 1);
            due(missing + " alone in MANY", x.safe(5, 2), missing < 128 ? 1 : 0);
            due(missing + " alone in NUMBERED", x.safe(5, 3), missing < 128 && missing != 38 ? 1 : 0);
        }
    }

    private static void safeLengths() {
        says("16", "(lengths not asked)");
        TextMender x = with(same(300, 65535));
        due("what comes may be long", x.safe(2, 1), 1);
        due("what lies between may be long", x.safe(3, 3), 1);
        due("though it can not be done to this text", x.harm(2, 1), NONE);
        due("nor this", x.harm(3, 3), NONE);
    }

    private static void safeNoCodes() {
        says("16", "NONE: no such CODES");
        TextMender x = with("\u00e9");
        for (int code : NO_CODES) {
            x.size(0);
            due("safe(" + code + ", 0)", x.safe(code, 0), NONE);
            due("where()", x.where(), NONE);
            due("safe(0, " + code + ")", x.safe(0, code), NONE);
            due("safe of both", x.safe(code, code), NONE);
        }
    }

    // ---- 17

    private static void backHowManyMore() {
        says("17", "The latest change is taken back: how many more can be");
        TextMender x = with("a");
        x.harm(0, 1);
        x.rough(0, 1);
        x.undo(0, 1);
        put(x, 98);
        x.read(0);
        put(x, MARK);
        x.text();
        x.choices(1, 0);
        x.chosen(0);
        x.list(0, 1);
        x.parts(0);
        due("eight", x.count(3), 8);
        for (int i = 7; i >= 0; i--) {
            due("back()", x.back(), i);
        }
        due("no letters", x.count(0), 0);
    }

    private static void backNone() {
        says("17", "NONE without one");
        TextMender x = new TextMender();
        due("a new one", x.back(), NONE);
        x.list(0, 0);
        x.cost(1, 1, 1);
        x.span(4, 0, 1, 0, 0);
        x.harm(9, 9);
        due("no changes", x.back(), NONE);
        put(x, 97);
        x.text();
        due("one", x.back(), 0);
        due("none", x.back(), NONE);
        due("the list stays", x.count(2), 1);
        due("the cost stays", x.count(5), 1);
        due("the code stays", x.count(6), 1);
    }

    private static void backAndOn() {
        says("17", "how many more can be");
        TextMender x = new TextMender();
        for (int i = 1; i <= 23; i++) {
            put(x, i);
            x.text();
        }
        due("back()", x.back(), 19);
        due("back()", x.back(), 18);
        put(x, 100);
        x.text();
        due("on", x.count(3), 19);
        put(x, 101);
        x.text();
        put(x, 102);
        x.text();
        due("full again", x.count(3), 20);
        int[] want = {101, 100, 21, 20, 19, 18, 17, 16, 15, 14, 13, 12, 11, 10, 9, 8, 7, 6, 5, 4};
        for (int i = 0; i < 20; i++) {
            due("back()", x.back(), 19 - i);
            dueText("as it was", x, want[i]);
        }
        due("no more", x.back(), NONE);
    }

    // ---- 18, 19

    private static void listNumbers() {
        says("18", "A HARM more in THE LIST: its number");
        TextMender x = new TextMender();
        for (int h = 0; h < 6; h++) {
            due("list()", x.list(5, h), h);
            due("so many", x.count(2), h + 1);
        }
        x.unlist();
        due("anew", x.list(5, 5), 0);
    }

    private static void listNoCodes() {
        says("18", "NONE: no such CODES");
        TextMender x = with("\u00e9");
        for (int code : NO_CODES) {
            x.size(0);
            due("list(" + code + ", 0)", x.list(code, 0), NONE);
            due("where()", x.where(), NONE);
            due("list(0, " + code + ")", x.list(0, code), NONE);
        }
        due("none", x.count(2), 0);
    }

    private static void listSix() {
        says("18", "6, or it is there");
        TextMender x = new TextMender();
        for (int h = 0; h < 6; h++) {
            x.list(h, 0);
        }
        due("a seventh", x.list(0, 1), NONE);
        due("where()", x.where(), NONE);
        due("six", x.count(2), 6);
        x.unlist();
        due("there is room again", x.list(0, 1), 0);
    }

    private static void listThere() {
        says("18", "or it is there");
        TextMender x = new TextMender();
        due("list(2, 1)", x.list(2, 1), 0);
        due("there", x.list(2, 1), NONE);
        due("the other way round", x.list(1, 2), 1);
        due("there", x.list(1, 2), NONE);
        due("of like codes", x.list(2, 2), 2);
        due("there", x.list(2, 2), NONE);
        due("three", x.count(2), 3);
        x.unlist();
        due("it is there no more", x.list(2, 1), 0);
    }

    private static void unlistHad() {
        says("19", "THE LIST is empty: how many it had");
        TextMender x = with("a");
        due("none", x.unlist(), 0);
        for (int n = 1; n <= 6; n++) {
            for (int h = 0; h < n; h++) {
                x.list(0, h);
            }
            due("unlist()", x.unlist(), n);
            due("empty", x.count(2), 0);
        }
        due("rows(3)", x.rows(3), 0);
        due("no change", x.count(3), 1);
    }

    // ---- 20, 21

    private static TextMender withAllRows() {
        TextMender x = with("ab");
        for (int h = 0; h < 6; h++) {
            x.list(h % 3, h / 3);
        }
        return x;
    }

    private static void rowsAtMost() {
        says("20", "How many ROWS of at most n HARMS (1 .. 3) MAKE THE TEXT");
        TextMender x = withAllRows();
        due("rows(1)", x.rows(1), 6);
        due("rows(2)", x.rows(2), 6 + 36);
        due("rows(3)", x.rows(3), 6 + 36 + 216);
        x.text();
        due("of no letters", x.rows(3), 258);
        due("of no letters", x.row(257, 5), 0);
        due("of no letters", x.row(257, 4), 4);
    }

    private static void rowsNone() {
        says("20", "How many ROWS");
        TextMender x = with("\u0100");
        due("no list", x.rows(3), 0);
        x.list(0, 1);
        x.list(1, 0);
        due("none can be undone", x.rows(3), 0);
        due("row(0, 0)", x.row(0, 0), NONE);
        due("no fault", x.where(), NONE);
    }

    private static void rowsAnother() {
        says("20", "NONE for another n");
        for (int n : new int[] {0, 4, -1, Integer.MIN_VALUE, Integer.MAX_VALUE}) {
            TextMender x = with("\u00e9");
            x.size(0);
            due("rows(" + n + ")", x.rows(n), NONE);
            due("where()", x.where(), NONE);
        }
    }

    private static void rowEdges() {
        says("21", "Of the i-th of these");
        TextMender x = withAllRows();
        x.rows(3);
        due("the first", x.row(0, 0), 1);
        due("the last of one", x.row(5, 0), 1);
        due("the first of two", x.row(6, 0), 2);
        due("the last of two", x.row(41, 0), 2);
        due("the first of three", x.row(42, 0), 3);
        due("the last", x.row(257, 0), 3);
        for (int k = 1; k <= 3; k++) {
            due("the first of three", x.row(42, k), 0);
            due("the last", x.row(257, k), 5);
        }
        due("its cost", x.row(257, 4), 22);
        due("its letters", x.row(257, 5), 2);
    }

    private static void rowNumbers() {
        says("21", "1, 2, 3: their numbers (NONE)");
        TextMender x = with("a");
        x.list(0, 0);
        x.rows(3);
        int[][] want = {{0, NONE, NONE}, {0, 0, NONE}, {0, 0, 0}};
        for (int i = 0; i < 3; i++) {
            for (int k = 0; k < 3; k++) {
                due("row(" + i + ", " + (k + 1) + ")", x.row(i, k + 1), want[i][k]);
            }
        }
    }

    private static void dueFirstRow(String what, TextMender x) {
        int[] want = {1, 0, NONE, NONE, 18, 1};
        for (int k = 0; k < 6; k++) {
            due(what + ", row(0, " + k + ")", x.row(0, k), want[k]);
        }
        due(what + ", row(1, 0)", x.row(1, 0), NONE);
    }

    private static void rowAsTheyWere() {
        says("21", "(by the latest rows(); of THE TEXT and THE LIST as they were)");
        TextMender x = with("\u00c3\u00a9");
        due("before any rows()", x.row(0, 0), NONE);
        x.list(2, 1);
        x.rows(1);
        dueFirstRow("told", x);
        x.rows(4);
        dueFirstRow("after a refused rows()", x);
        x.mend(3, 1);
        dueFirstRow("after mend()", x);
        put(x, 97);
        x.text();
        dueFirstRow("after text()", x);
        x.unlist();
        x.list(0, 1);
        x.list(0, 2);
        dueFirstRow("after another list", x);
        x.back();
        dueFirstRow("after back()", x);
        x.text();
        due("the latest rows()", x.rows(1), 2);
        due("the latest rows()", x.row(1, 1), 1);
    }

    private static void rowNoneSuch() {
        says("21", "NONE: there is none such (the first 258 are told)");
        TextMender x = withAllRows();
        x.rows(3);
        for (int what = 0; what <= 5; what++) {
            due("257", x.row(257, what) != NONE, true);
            due("258", x.row(258, what), NONE);
            due("-1", x.row(-1, what), NONE);
            due("the least", x.row(Integer.MIN_VALUE, what), NONE);
            due("the greatest", x.row(Integer.MAX_VALUE, what), NONE);
        }
        x.rows(1);
        due("those of before are told no more", x.row(6, 0), NONE);
        due("the last", x.row(5, 0), 1);
    }

    private static void rowAnotherWhat() {
        says("21", "another what");
        TextMender x = withAllRows();
        x.rows(1);
        for (int what : new int[] {-1, 6, Integer.MIN_VALUE, Integer.MAX_VALUE}) {
            due("row(0, " + what + ")", x.row(0, what), NONE);
        }
    }
}
