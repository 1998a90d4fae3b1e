/** Each sentence of the promises 1 to 12 (texts, codes) that names an edge: a test of its own. */
public final class TextEdgeTests extends Due {
    public static void main(String[] args) {
        newObject();
        feedFull();
        feedAnyNumber();
        endAll();
        endTooMany();
        endBelow();
        textEmptiesTape();
        textOfNone();
        textOver300();
        textOver300First();
        textNoLetter();
        readEmptiesTape();
        readOfNone();
        readNoCode();
        readNoByte();
        readFault();
        readOver300();
        spanOnlyTold();
        spanBytes();
        spanLetters();
        spanSteps();
        spanHad();
        spanAllOrNone();
        spanFull();
        blankTold();
        blankNoSuch();
        countEach();
        countAnother();
        atEdges();
        atNone();
        sizeOver900();
        sizeNoCode();
        sizeFault();
        byteOfEdges();
        byteOfRefused();
        whereOfEach();
        whereOfOthers();
        whereOfFaults();
        tellAndEnd();
    }

    // ---- 1 to 3

    private static void newObject() {
        says("1", "No LETTERS in THE TEXT, empty TAPE, LIST, TOLD CODES");
        TextMender x = new TextMender();
        for (int what = 0; what <= 7; what++) {
            due("count(" + what + ")", x.count(what), 0);
        }
        dueNoLetter(x, 0);
        due("where()", x.where(), NONE);
        due("end(1)", x.end(1), false);
        due("worth()", x.worth(), 4);
        due("back()", x.back(), NONE);
        due("rows(3)", x.rows(3), 0);
        due("row(0, 0)", x.row(0, 0), NONE);
        due("choice(0, 0)", x.choice(0, 0), NONE);
        due("chosen(0)", x.chosen(0), false);
        due("unlist()", x.unlist(), 0);
        for (int code = 4; code <= 5; code++) {
            TextMender y = withTape(0);
            due("read(" + code + ")", y.read(code), NONE);
            due("span of all", y.span(code, 0, 256, 0, 1), 256);
        }
    }

    private static void feedFull() {
        says("2", "NONE, and none come, if there would be more than 900");
        TextMender x = new TextMender();
        for (int n = 5; n <= 900; n += 5) {
            due("feed", x.feed(0, 0, 0, 0, n), n);
        }
        due("905", x.feed(1, 1, 1, 1, 1), NONE);
        due("none came", x.count(1), 900);
        for (int n = 899; n >= 896; n--) {
            x.end(n);
            due((n + 5) + "", x.feed(1, 1, 1, 1, 1), NONE);
            due("none came", x.count(1), n);
        }
        x.end(895);
        due("900", x.feed(1, 1, 1, 1, 1), 900);
    }

    private static void feedAnyNumber() {
        says("2", "Five numbers come behind THE TAPE");
        TextMender x = new TextMender();
        due("wrong ones too", x.feed(-1, Integer.MIN_VALUE, Integer.MAX_VALUE, 65536, 55296), 5);
        x.end(0);
        x.feed(5, 4, 3, 2, 1);
        due("in their order", x.feed(10, 9, 8, 7, 6), 10);
        x.text();
        dueText("in their order", x, 5, 4, 3, 2, 1, 10, 9, 8, 7, 6);
    }

    private static void endAll() {
        says("3", "THE TAPE has its first n numbers alone");
        TextMender x = withTape(1, 2, 3, 4, 5);
        due("all", x.end(5), true);
        due("all", x.count(1), 5);
        due("three", x.end(3), true);
        due("three", x.count(1), 3);
        x.feed(6, 7, 8, 9, 10);
        x.text();
        dueText("the first ones", x, 1, 2, 3, 6, 7, 8, 9, 10);
        due("none of none", x.end(0), true);
        x.feed(1, 2, 3, 4, 5);
        due("none", x.end(0), true);
        due("none", x.count(1), 0);
    }

    private static void endTooMany() {
        says("3", "false if it has not so many");
        TextMender x = withTape(1, 2, 3);
        due("one more", x.end(4), false);
        due("many more", x.end(Integer.MAX_VALUE), false);
        due("all stay", x.count(1), 3);
        due("of an empty one", new TextMender().end(1), false);
        TextMender full = withTape(same(900, 7));
        due("of a full one", full.end(901), false);
        due("of a full one", full.end(900), true);
    }

    private static void endBelow() {
        says("3", "or n is below 0");
        TextMender x = withTape(1, 2, 3);
        due("-1", x.end(-1), false);
        due("the least", x.end(Integer.MIN_VALUE), false);
        due("all stay", x.count(1), 3);
        due("of an empty one", new TextMender().end(-1), false);
    }

    // ---- 4

    private static void textEmptiesTape() {
        says("4", "THE TAPE, which is empty then, is THE TEXT");
        TextMender x = withTape(97, 98);
        due("text()", x.text(), 2);
        due("empty", x.count(1), 0);
        put(x, 97, -1);
        due("refused", x.text(), NONE);
        due("empty", x.count(1), 0);
        dueText("the text stays", x, 97, 98);
    }

    private static void textOfNone() {
        says("4", "how many LETTERS");
        TextMender x = with("abc");
        due("an empty tape", x.text(), 0);
        due("no letters", x.count(0), 0);
        due("a change all the same", x.count(3), 2);
        due("back()", x.back(), 1);
        dueText("back()", x, "abc");
    }

    private static void textOver300() {
        says("4", "Refused: more than 300");
        for (int n : new int[] {301, 305, 900}) {
            TextMender x = with("a");
            put(x, same(n, 98));
            due(n + "", x.text(), NONE);
            dueText("stays", x, "a");
            due("no change", x.count(3), 1);
        }
        TextMender y = withTape(same(300, 98));
        due("300", y.text(), 300);
        due("the last", y.at(299), 98);
    }

    private static void textOver300First() {
        says("4", "(asked first)");
        int[] both = same(301, 98);
        both[0] = -1;
        TextMender x = withTape(both);
        due("refused", x.text(), NONE);
        due("no place", x.where(), NONE);
        TextMender y = withTape(java.util.Arrays.copyOf(both, 300));
        due("refused", y.text(), NONE);
        due("its place", y.where(), 0);
    }

    private static void textNoLetter() {
        says("4", "a number that is no LETTER (where() tells its place)");
        for (int bad : new int[] {-1, 55296, 57343, 65536, Integer.MIN_VALUE, Integer.MAX_VALUE}) {
            TextMender x = with("a");
            put(x, 97, 98, bad, 98, bad);
            due(bad + "", x.text(), NONE);
            due("the first such", x.where(), 2);
            dueText("stays", x, "a");
        }
        int[] last = same(300, 97);
        last[299] = 65536;
        TextMender y = withTape(last);
        due("the last", y.text(), NONE);
        due("the last", y.where(), 299);
    }

    // ---- 5

    private static void readEmptiesTape() {
        says("5", "THE TAPE, which is empty then, as BYTES, READ in a CODE, is THE TEXT");
        TextMender x = withTape(195, 169);
        due("read(2)", x.read(2), 1);
        due("empty", x.count(1), 0);
        int[][] refused = {{6, 97}, {0, 200}, {0, 256}, {2, 195}};
        for (int[] r : refused) {
            put(x, r[1]);
            due("refused", x.read(r[0]), NONE);
            due("empty", x.count(1), 0);
        }
        dueText("the text stays", x, 233);
        due("one change", x.count(3), 1);
    }

    private static void readOfNone() {
        says("5", "how many LETTERS");
        for (int code = 0; code <= 5; code++) {
            TextMender x = with("a");
            due("an empty tape in " + code, x.read(code), 0);
            due("no letters", x.count(0), 0);
            due("a change", x.count(3), 2);
            due("where()", x.where(), NONE);
        }
    }

    private static void readNoCode() {
        says("5", "Refused: no such CODE");
        for (int code : NO_CODES) {
            dueRead(code, NONE, NONE, 97);
            dueRead(code, NONE, NONE);
        }
    }

    private static void readNoByte() {
        says("5", "a number that is no byte (where() tells its place)");
        for (int bad : new int[] {-1, 256, 65535, Integer.MIN_VALUE, Integer.MAX_VALUE}) {
            dueRead(1, NONE, 1, 255, bad, bad);
            dueRead(4, NONE, 0, bad);
        }
        dueRead(1, NONE, 0, 256);
        int[] last = same(300, 97);
        last[299] = 256;
        dueRead(1, NONE, 299, last);
    }

    private static void readFault() {
        says("5", "a FAULT");
        dueRead(0, NONE, 1, 127, 128);
        dueRead(2, NONE, 1, 127, 128);
        dueRead(3, NONE, 1, 127, 38);
        dueRead(5, NONE, 0, 127);
        dueRead(0, NONE, 299, joined(same(299, 97), 200));
    }

    private static void readOver300() {
        says("5", "more than 300 LETTERS");
        dueRead(1, 300, NONE, same(300, 255));
        dueRead(1, NONE, NONE, same(301, 255));
        dueRead(1, NONE, NONE, same(900, 255));
        int[] two = new int[602];
        for (int i = 0; i < 602; i++) {
            two[i] = i % 2 == 0 ? 195 : 169;
        }
        dueRead(2, 300, NONE, java.util.Arrays.copyOf(two, 600));
        dueRead(2, NONE, NONE, two);
    }

    // ---- 6, 7

    private static void dueSpan(TextMender x, int want, int code, int from, int n, int letter, int step) {
        due("span(" + code + ", " + from + ", " + n + ", " + letter + ", " + step + ")",
            x.span(code, from, n, letter, step), want);
        due("where()", x.where(), NONE);
    }

    private static void dueNewSpan(int want, int from, int n, int letter, int step) {
        TextMender x = new TextMender();
        dueSpan(x, want, 4, from, n, letter, step);
        due("count(6)", x.count(6), Math.max(0, want));
    }

    private static void spanOnlyTold() {
        says("6", "In a TOLD CODE (4, 5)");
        TextMender x = new TextMender();
        for (int code : new int[] {0, 1, 2, 3, 6, -1, Integer.MIN_VALUE, Integer.MAX_VALUE}) {
            dueSpan(x, NONE, code, 0, 1, 0, 1);
        }
        dueSpan(x, 1, 4, 0, 1, 0, 1);
        dueSpan(x, 2, 5, 0, 2, 0, 1);
        due("count(6)", x.count(6), 1);
        due("count(7)", x.count(7), 2);
    }

    private static void spanBytes() {
        says("6", "n bytes from one on (0 .. 255)");
        dueNewSpan(256, 0, 256, 0, 1);
        dueNewSpan(NONE, 0, 257, 0, 1);
        dueNewSpan(1, 255, 1, 0, 1);
        dueNewSpan(NONE, 255, 2, 0, 1);
        dueNewSpan(NONE, 256, 1, 0, 1);
        dueNewSpan(NONE, -1, 1, 0, 1);
        dueNewSpan(NONE, -1, 2, 0, 1);
        dueNewSpan(NONE, 0, 0, 0, 1);
        dueNewSpan(NONE, 0, -1, 0, 1);
        dueNewSpan(NONE, 0, Integer.MIN_VALUE, 0, 1);
        dueNewSpan(NONE, 0, Integer.MAX_VALUE, 0, 1);
        dueNewSpan(NONE, 255, Integer.MAX_VALUE, 0, 1);
        dueNewSpan(NONE, Integer.MAX_VALUE, 1, 0, 1);
        dueNewSpan(NONE, Integer.MAX_VALUE, Integer.MAX_VALUE, 0, 1);
        dueNewSpan(NONE, Integer.MIN_VALUE, Integer.MIN_VALUE, 0, 1);
    }

    private static void spanLetters() {
        says("6", "Refused: no such CODE, bytes, LETTERS");
        dueNewSpan(2, 0, 2, 65534, 1);
        dueNewSpan(NONE, 0, 2, 65535, 1);
        dueNewSpan(2, 0, 2, 1, -1);
        dueNewSpan(NONE, 0, 2, 0, -1);
        dueNewSpan(NONE, 0, 2, 55295, 1);
        dueNewSpan(NONE, 0, 2, 57344, -1);
        dueNewSpan(NONE, 0, 1, 55296, 1);
        dueNewSpan(NONE, 0, 1, 57343, 1);
        dueNewSpan(NONE, 0, 1, -1, 1);
        dueNewSpan(NONE, 0, 1, 65536, -1);
        dueNewSpan(NONE, 0, 2, Integer.MAX_VALUE, 1);
        dueNewSpan(NONE, 0, 2, Integer.MIN_VALUE, -1);
        // the letters go by 255 across those that are none
        dueNewSpan(NONE, 0, 20, 55290, 255);
    }

    private static void spanSteps() {
        says("6", "the LETTERS from one on by step (-255 .. 255)");
        dueNewSpan(3, 0, 3, 0, 255);
        dueNewSpan(NONE, 0, 3, 0, 256);
        dueNewSpan(3, 0, 3, 510, -255);
        dueNewSpan(NONE, 0, 3, 512, -256);
        dueNewSpan(NONE, 0, 3, 0, Integer.MAX_VALUE);
        dueNewSpan(NONE, 0, 3, 65535, Integer.MIN_VALUE);
        dueNewSpan(1, 0, 1, 510, 0);
        dueNewSpan(NONE, 0, 2, 510, 0);
        TextMender x = withTape(7, 8, 9);
        x.span(5, 7, 3, 510, -255);
        x.read(5);
        dueText("the letters", x, 510, 255, 0);
    }

    private static void spanHad() {
        says("6", "a byte or LETTER that it has");
        TextMender x = new TextMender();
        dueSpan(x, 3, 4, 100, 3, 1000, 10);
        dueSpan(x, NONE, 4, 98, 3, 2000, 1);
        dueSpan(x, NONE, 4, 102, 3, 2000, 1);
        dueSpan(x, 5, 4, 98, 2, 2000, 1);
        dueSpan(x, 7, 4, 103, 2, 3000, 1);
        dueSpan(x, NONE, 4, 200, 3, 998, 1);
        dueSpan(x, NONE, 4, 200, 2, 1020, 1);
        dueSpan(x, NONE, 4, 200, 2, 1030, -10);
        dueSpan(x, 9, 4, 200, 2, 1021, 1);
        due("blank(4)", x.blank(4), true);
        dueSpan(x, 3, 4, 102, 3, 1000, 10);
    }

    private static void spanAllOrNone() {
        says("6", "how many bytes it has then");
        TextMender x = new TextMender();
        dueSpan(x, 1, 4, 5, 1, 105, 0);
        // the last one of each is the wrong one
        dueSpan(x, NONE, 4, 3, 3, 200, 1);
        dueSpan(x, NONE, 4, 10, 3, 103, 1);
        due("none of them came", x.count(6), 1);
        put(x, 3);
        due("none of them came", x.read(4), NONE);
        put(x, 10);
        due("none of them came", x.read(4), NONE);
        dueSpan(x, 3, 4, 10, 2, 103, 1);
    }

    private static void spanFull() {
        says("6", "a byte or LETTER that it has");
        TextMender x = new TextMender();
        dueSpan(x, 256, 4, 0, 256, 57344, 1);
        for (int from = 0; from < 256; from += 51) {
            dueSpan(x, NONE, 4, from, 1, 97, 0);
        }
        put(x, 0, 128, 255);
        due("read(4)", x.read(4), 3);
        dueText("read(4)", x, 57344, 57472, 57599);
        due("a letter that it has not", withFull(57343 + 257), NONE);
        due("a letter that it has", withFull(57344 + 255), 1);
    }

    private static long withFull(int letter) {
        TextMender x = with(letter);
        x.span(4, 0, 256, 57344, 1);
        return x.size(4);
    }

    private static void blankTold() {
        says("7", "A TOLD CODE has no bytes: true");
        TextMender x = with("a");
        due("empty already", x.blank(4), true);
        x.span(4, 0, 256, 0, 1);
        x.span(5, 0, 256, 0, 1);
        due("full", x.blank(4), true);
        due("count(6)", x.count(6), 0);
        due("the other stays", x.count(7), 256);
        due("size(4)", x.size(4), NONE);
        due("size(5)", x.size(5), 1);
        due("again", x.blank(5), true);
        due("size(5)", x.size(5), NONE);
        put(x, 97);
        due("read(5)", x.read(5), NONE);
    }

    private static void blankNoSuch() {
        says("7", "false for no such");
        TextMender x = new TextMender();
        x.span(4, 0, 9, 0, 1);
        x.span(5, 0, 9, 0, 1);
        for (int code : new int[] {0, 1, 2, 3, 6, -1, Integer.MIN_VALUE, Integer.MAX_VALUE}) {
            due("blank(" + code + ")", x.blank(code), false);
        }
        due("count(6)", x.count(6), 9);
        due("count(7)", x.count(7), 9);
    }

    // ---- 8, 9

    private static void countEach() {
        says("8", "What 0: LETTERS of THE TEXT, 1: numbers on THE TAPE, 2: HARMS of THE LIST");
        TextMender x = with(97, MARK, MARK);
        x.list(0, 0);
        x.list(0, 1);
        x.feed(1, 2, 3, 4, 5);
        due("0", x.count(0), 3);
        due("1", x.count(1), 5);
        due("2", x.count(2), 2);
        says("8", "3: changes that can be taken back, 4: MARKS in THE TEXT, 5: costs told, 6: bytes of CODE 4, 7: of CODE 5");
        x.harm(2, 2);
        x.harm(2, 2);
        x.harm(2, 2);
        x.cost(1, 2, 3);
        x.cost(1, 2, 4);
        x.span(4, 0, 6, 0, 1);
        x.span(5, 0, 7, 0, 1);
        due("3", x.count(3), 4);
        due("4", x.count(4), 2);
        due("5: told twice is one", x.count(5), 1);
        due("6", x.count(6), 6);
        due("7", x.count(7), 7);
    }

    private static void countAnother() {
        says("8", "NONE for another what");
        TextMender x = with("a");
        for (int what : new int[] {-1, 8, Integer.MIN_VALUE, Integer.MAX_VALUE}) {
            due("count(" + what + ")", x.count(what), NONE);
        }
    }

    private static void atEdges() {
        says("9", "LETTER i of THE TEXT");
        TextMender x = with(same(300, 65535));
        due("the first", x.at(0), 65535);
        due("the last", x.at(299), 65535);
        TextMender y = with(7);
        due("the only one", y.at(0), 7);
    }

    private static void atNone() {
        says("9", "NoSuchElementException: none such");
        TextMender x = with(same(300, 97));
        dueNoLetter(x, 300);
        dueNoLetter(x, -1);
        dueNoLetter(x, Integer.MIN_VALUE);
        dueNoLetter(x, Integer.MAX_VALUE);
        dueNoLetter(new TextMender(), 0);
        x.text();
        dueNoLetter(x, 0);
        x.back();
        due("back()", x.at(299), 97);
        TextMender y = with("\u00c3\u00a9");
        y.undo(2, 1);
        dueNoLetter(y, 1);
    }

    // ---- 10, 11

    private static void sizeOver900() {
        says("10", "how many BYTES (more than 900, too)");
        due("none", new TextMender().size(3), 0);
        due("900", with(same(300, 65535)).size(2), 900);
        due("904", with(same(113, 65535)).size(3), 904);
        TextMender x = with(same(300, 65535));
        due("2400", x.size(3), 2400);
        due("the last byte", x.byteOf(3, 2399), 59);
        due("the first byte", x.byteOf(3, 0), 38);
        due("byte 901", x.byteOf(3, 901), "&#65535;".charAt(901 % 8));
    }

    private static void sizeNoCode() {
        says("10", "Refused: no such CODE, a FAULT");
        TextMender x = with("a");
        for (int code : NO_CODES) {
            x.size(4);
            due("size(" + code + ")", x.size(code), NONE);
            due("where()", x.where(), NONE);
        }
    }

    private static void sizeFault() {
        says("10", "Refused: no such CODE, a FAULT");
        TextMender x = with(97, 127, 128, 255, 256);
        due("size(0)", x.size(0), NONE);
        due("where()", x.where(), 2);
        due("size(1)", x.size(1), NONE);
        due("where()", x.where(), 4);
        due("size(4)", x.size(4), NONE);
        due("where()", x.where(), 0);
        due("size(2)", x.size(2), 8);
        due("where()", x.where(), NONE);
    }

    private static void byteOfEdges() {
        says("11", "NONE also if there is none");
        TextMender x = with("\u00e9");
        due("the first", x.byteOf(2, 0), 195);
        due("the last", x.byteOf(2, 1), 169);
        x.size(0);
        for (int i : new int[] {2, -1, Integer.MIN_VALUE, Integer.MAX_VALUE}) {
            due("byte " + i, x.byteOf(2, i), NONE);
            due("where()", x.where(), NONE);
        }
        due("of none", new TextMender().byteOf(0, 0), NONE);
    }

    private static void byteOfRefused() {
        says("11", "Byte i of that");
        TextMender x = with(97, 256);
        due("a fault behind", x.byteOf(1, 0), NONE);
        due("where()", x.where(), 1);
        x.size(2);
        due("a fault, and none such", x.byteOf(1, 77), NONE);
        due("where()", x.where(), 1);
        for (int code : NO_CODES) {
            x.size(1);
            due("no such code", x.byteOf(code, 0), NONE);
            due("where()", x.where(), NONE);
        }
    }

    // ---- 12

    private static final Call[] TELLING = {
        TextMender::text, x -> x.read(1), x -> x.span(4, 0, 1, 0, 0), x -> x.size(2), x -> x.byteOf(2, 0),
        x -> x.harm(2, 2), x -> x.rough(2, 2), x -> x.undo(2, 2), x -> x.safe(0, 0), x -> x.list(0, 0),
        x -> x.rows(1), x -> x.mend(1, 1), x -> x.parts(0), x -> x.choices(2, 2)};
    private static final Call[] TELLING_WRONG = {
        x -> x.read(9), x -> x.span(9, 0, 1, 0, 0), x -> x.size(9), x -> x.byteOf(9, 0), x -> x.harm(9, 2),
        x -> x.rough(2, 9), x -> x.undo(9, 2), x -> x.safe(0, 9), x -> x.list(0, 9), x -> x.rows(9),
        x -> x.mend(1, 0), x -> x.parts(-1), x -> x.choices(9, 2)};

    private static TextMender withFault() {
        TextMender x = with(97, MARK);
        x.choices(1, 0);
        x.size(1);
        due("a fault", x.where(), 1);
        return x;
    }

    private static void whereOfEach() {
        says("12", "Of the latest of text(), read(), span(), size(), byteOf(), harm(), rough(), undo(), safe(), list(), rows(),"
            + " mend(), parts(), choices()");
        for (int k = 0; k < TELLING.length; k++) {
            TextMender x = withFault();
            TELLING[k].on(x);
            due("without a fault, call " + k, x.where(), NONE);
        }
        for (int k = 0; k < TELLING_WRONG.length; k++) {
            TextMender x = withFault();
            due("refused, call " + k, TELLING_WRONG[k].on(x), NONE);
            due("refused otherwise, call " + k, x.where(), NONE);
        }
    }

    private static void whereOfOthers() {
        says("12", "Of the latest of text()");
        TextMender x = withFault();
        x.feed(1, 2, 3, 4, 5);
        x.end(-1);
        x.end(0);
        x.blank(4);
        x.blank(3);
        x.count(0);
        x.count(9);
        x.at(0);
        dueNoLetter(x, 9);
        x.unlist();
        x.row(0, 0);
        x.cost(1, 2, 3);
        x.cost(1, 2, -3);
        x.worth();
        x.choice(0, 0);
        x.where();
        due("the others leave it alone", x.where(), 1);
        x = withFault();
        due("chosen()", x.chosen(0), true);
        due("chosen() leaves it alone", x.where(), 1);
        due("chosen()", x.chosen(0), false);
        due("chosen() leaves it alone", x.where(), 1);
        due("back()", x.back(), 1);
        x.back();
        due("back()", x.back(), NONE);
        due("back() leaves it alone", x.where(), 1);
    }

    private static void whereOfFaults() {
        says("12", "the place of its FAULT, or NONE");
        TextMender x = withTape(97, -1);
        x.text();
        due("text()", x.where(), 1);
        put(x, 97, 97, 256);
        x.read(0);
        due("read()", x.where(), 2);
        put(x, 97, 97, 97, 255);
        x.read(2);
        due("read()", x.where(), 3);
        put(x, 97, 97, 97, 97, 300);
        x.text();
        due("text()", x.where(), NONE);
        due("harm()", x.harm(1, 1), NONE);
        due("harm()", x.where(), 4);
        x.size(2);
        due("rough()", x.rough(1, 1), NONE);
        due("rough()", x.where(), 4);
        x.size(2);
        due("undo()", x.undo(2, 1), NONE);
        due("undo()", x.where(), 4);
        put(x, MARK, 97, 97, 97, 97, 97, 300);
        x.text();
        due("choices()", x.choices(1, 1), NONE);
        due("choices()", x.where(), 6);
    }
}
