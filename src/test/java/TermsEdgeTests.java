/** Each sentence of the Terms that names an edge: a test of its own. What refused calls leave: RefusedEdgeTests. */
public final class TermsEdgeTests extends Due {
    public static void main(String[] args) {
        callsOfOneObject();
        letters();
        lettersInCodes();
        textOf300();
        textOf300ByHarms();
        bytes();
        bytesOf900();
        bytesOf900InRows();
        mark();
        codes();
        plain();
        wide();
        manyOneByte();
        manyTwoBytes();
        manyThreeBytes();
        manyNoShorterByMore();
        numberedOneByte();
        numberedOthers();
        numberedZeroAhead();
        numberedNoOthers();
        toldOnce();
        faultOfWritten();
        faultOfRead();
        faultOfCut();
        canBeDone();
        placesOfBytes();
        canBeUndone();
        roughlyFirstByteAlone();
        listOfSix();
        rowsOfOneToThree();
        eachCanBeUndone();
        orderOfRows();
        blanksAround();
        costOfNoLetters();
        costToldElse();
        costOfSorts();
        sorts();
        changes();
        noChanges();
        latestTwenty();
        latestTwentyOf300();
        tellAndEnd();
    }

    // ---- what it is

    private static void callsOfOneObject() {
        says("What it is", "An object is used for at most 512 calls after it has been made");
        TextMender x = new TextMender();
        int calls = 0;
        for (int h = 0; h < 6; h++) {
            x.list(h % 3, h / 3);
            calls++;
        }
        for (; calls < 509; calls++) {
            x.cost(97, calls, 1);
        }
        due("call 510", x.feed(97, 98, MARK, 0, 0), 5);
        due("call 511", x.text(), 5);
        due("call 512", x.worth(), 9 + 1 + 39 + 64 + 64 + 39);
    }

    // ---- 1, letters and bytes

    private static void letters() {
        says("Terms 1", "LETTERS are numbers 0 .. 65535, but 55296 .. 57343");
        for (int good : new int[] {0, 1, 55295, 57344, 65534, 65535}) {
            TextMender x = withTape(good);
            due("text() of " + good, x.text(), 1);
            due("at(0) of " + good, x.at(0), good);
            due("cost of " + good, x.cost(good, 97, 1), true);
            due("cost of " + good, x.cost(97, good, 1), true);
            due("span of " + good, x.span(4, 0, 1, good, 0), 1);
        }
        for (int bad : new int[] {-1, Integer.MIN_VALUE, 55296, 57343, 65536, Integer.MAX_VALUE}) {
            TextMender x = withTape(bad);
            due("text() of " + bad, x.text(), NONE);
            due("cost of " + bad, x.cost(bad, 97, 1), false);
            due("cost of " + bad, x.cost(97, bad, 1), false);
            due("span of " + bad, x.span(4, 0, 1, bad, 0), NONE);
        }
    }

    private static void lettersInCodes() {
        says("Terms 1", "LETTERS are numbers 0 .. 65535, but 55296 .. 57343");
        dueRead(2, 1, NONE, 0xed, 0x9f, 0xbf);
        dueRead(2, NONE, 0, 0xed, 0xa0, 0x80);
        dueRead(2, NONE, 0, 0xed, 0xbf, 0xbf);
        dueRead(2, 1, NONE, 0xee, 0x80, 0x80);
        dueRead(2, 1, NONE, 0xef, 0xbf, 0xbf);
        dueRead(2, NONE, 0, 0xf0, 0x90, 0x80, 0x80);
        dueRead(3, 1, NONE, signs("&#55295;"));
        dueRead(3, NONE, 0, signs("&#55296;"));
        dueRead(3, NONE, 0, signs("&#57343;"));
        dueRead(3, 1, NONE, signs("&#57344;"));
        dueRead(3, 1, NONE, signs("&#65535;"));
        dueRead(3, NONE, 0, signs("&#65536;"));
    }

    private static void textOf300() {
        says("Terms 1", "THE TEXT has at most 300 LETTERS");
        due("text() of 300", withTape(same(300, 97)).text(), 300);
        due("text() of 301", withTape(same(301, 97)).text(), NONE);
        due("read() of 300", withTape(same(300, 97)).read(0), 300);
        due("read() of 301", withTape(same(301, 97)).read(0), NONE);
        int[] threeBytes = new int[900];
        for (int i = 0; i < 900; i += 3) {
            threeBytes[i] = 0xef;
            threeBytes[i + 1] = 0xbf;
            threeBytes[i + 2] = 0xbf;
        }
        due("read() of 900 bytes, 300 letters", withTape(threeBytes).read(2), 300);
    }

    private static void textOf300ByHarms() {
        says("Terms 1", "what comes has at most 300 LETTERS");
        due("harm() to 300", with(same(150, 233)).harm(2, 1), 300);
        due("harm() to 301", with(joined(same(150, 233), 97)).harm(2, 1), NONE);
        due("undo() to 300", with(same(150, 233)).undo(1, 2), 300);
        due("undo() to 301", with(joined(same(150, 233), 97)).undo(1, 2), NONE);
        due("rough() to 300", with(same(150, 233)).rough(2, 0), 300);
        due("rough() to 301", with(joined(same(150, 233), 97)).rough(2, 0), NONE);
        TextMender x = with(same(150, 233));
        x.list(1, 2);
        due("rows() to 300", x.rows(1), 1);
        due("its letters", x.row(0, 5), 300);
        TextMender y = with(joined(same(150, 233), 97));
        y.list(1, 2);
        due("rows() to 301", y.rows(1), 0);
    }

    private static void bytes() {
        says("Terms 1", "BYTES (0 .. 255)");
        dueRead(1, 2, NONE, 0, 255);
        dueRead(1, NONE, 1, 0, 256);
        dueRead(1, NONE, 0, -1, 0);
        TextMender x = new TextMender();
        due("span of byte 0", x.span(4, 0, 1, 1000, 0), 1);
        due("span of byte 255", x.span(4, 255, 1, 1001, 0), 2);
        due("span of byte -1", x.span(4, -1, 1, 1002, 0), NONE);
        due("span of byte 256", x.span(4, 256, 1, 1002, 0), NONE);
    }

    private static void bytesOf900() {
        says("Terms 1", "are at most 900");
        int[] just = joined(same(112, 65535), 97, 97, 97, 97);
        int[] more = joined(just, 97);
        due("harm() by 900", with(just).harm(3, 3), 116);
        due("harm() by 901", with(more).harm(3, 3), NONE);
        due("undo() by 900", with(just).undo(3, 3), 116);
        due("undo() by 901", with(more).undo(3, 3), NONE);
        due("rough() by 900", with(just).rough(3, 3), 0);
        due("rough() by 901", with(more).rough(3, 3), NONE);
        due("harm() by 900 in MANY", with(same(300, 65535)).harm(2, 2), 300);
    }

    private static void bytesOf900InRows() {
        says("Terms 1", "and at most 900 BYTES lie between");
        TextMender x = with(joined(same(112, 65535), 97, 97, 97, 97));
        x.list(3, 3);
        due("rows() by 900", x.rows(3), 3);
        TextMender y = with(joined(same(112, 65535), 97, 97, 97, 97, 97));
        y.list(3, 3);
        due("rows() by 901", y.rows(3), 0);
    }

    private static void mark() {
        says("Terms 1", "MARK is the LETTER 65533");
        due("marks", with(65532, 65533, 65534, 65533).count(4), 2);
        TextMender x = with(233);
        x.rough(1, 0);
        dueText("rough()", x, 65533);
    }

    // ---- 1, codes

    private static void codes() {
        says("Terms 1", "CODES 0 .. 5");
        for (int code = 0; code <= 5; code++) {
            TextMender x = new TextMender();
            due("read(" + code + ") of none", x.read(code), 0);
            due("size(" + code + ") of none", x.size(code), 0);
            due("harm(" + code + ", 0) of none", x.harm(code, 0), 0);
            due("harm(0, " + code + ") of none", x.harm(0, code), 0);
            due("list(" + code + ", 0)", x.list(code, 0), 0);
        }
        for (int code : NO_CODES) {
            TextMender x = new TextMender();
            due("read(" + code + ") of none", x.read(code), NONE);
            due("size(" + code + ") of none", x.size(code), NONE);
            due("harm(" + code + ", 0) of none", x.harm(code, 0), NONE);
            due("harm(0, " + code + ") of none", x.harm(0, code), NONE);
            due("list(" + code + ", 0)", x.list(code, 0), NONE);
        }
    }

    /** The LETTERS are WRITTEN as the bytes, and the bytes are READ as the LETTERS. */
    private static void dueBoth(int code, int[] letters, int... bytes) {
        TextMender x = with(letters);
        due("size(" + code + ")", x.size(code), bytes.length);
        for (int i = 0; i < bytes.length; i++) {
            due("byteOf(" + code + ", " + i + ")", x.byteOf(code, i), bytes[i]);
        }
        TextMender y = withTape(bytes);
        due("read(" + code + ")", y.read(code), letters.length);
        dueText("read(" + code + ")", y, letters);
    }

    private static void dueNotWritten(int code, int fault, int... letters) {
        TextMender x = with(letters);
        due("size(" + code + ")", x.size(code), NONE);
        due("where()", x.where(), fault);
    }

    private static void plain() {
        says("Terms 1", "0 PLAIN: the bytes 0 .. 127 are these LETTERS");
        dueBoth(0, new int[] {0, 127}, 0, 127);
        dueNotWritten(0, 0, 128);
        dueRead(0, NONE, 0, 128);
        dueRead(0, NONE, 0, 255);
    }

    private static void wide() {
        says("Terms 1", "1 WIDE: 0 .. 255 likewise");
        dueBoth(1, new int[] {0, 127, 128, 255}, 0, 127, 128, 255);
        dueNotWritten(1, 0, 256);
        dueNotWritten(1, 0, 65535);
    }

    private static void manyOneByte() {
        says("Terms 1", "LETTERS below 128 are one byte");
        dueBoth(2, new int[] {0, 127}, 0, 127);
        for (int alone : new int[] {128, 191, 192, 223, 224, 239, 240, 255}) {
            dueRead(2, NONE, 0, alone);
        }
    }

    private static void manyTwoBytes() {
        says("Terms 1", "below 2048 two: 192 + the higher five bits, 128 + the lower six");
        dueBoth(2, new int[] {128, 191, 192, 2047}, 194, 128, 194, 191, 195, 128, 223, 191);
        dueRead(2, NONE, 0, 195, 127);
        dueRead(2, NONE, 0, 195, 192);
    }

    private static void manyThreeBytes() {
        says("Terms 1", "others three: 224 + the highest four bits, 128 + the next six, 128 + the lowest six");
        dueBoth(2, new int[] {2048, 4095, 4096, 65535}, 224, 160, 128, 224, 191, 191, 225, 128, 128, 239, 191, 191);
        dueRead(2, NONE, 0, 225, 127, 128);
        dueRead(2, NONE, 0, 225, 192, 128);
        dueRead(2, NONE, 0, 225, 128, 127);
        dueRead(2, NONE, 0, 225, 128, 192);
        dueRead(2, NONE, 0, 240, 144, 128, 128);
    }

    private static void manyNoShorterByMore() {
        says("Terms 1", "(no shorter ones may be told by more)");
        dueRead(2, NONE, 0, 192, 128);
        dueRead(2, NONE, 0, 193, 191);
        dueRead(2, 1, NONE, 194, 128);
        dueRead(2, NONE, 0, 224, 128, 128);
        dueRead(2, NONE, 0, 224, 159, 191);
        dueRead(2, 1, NONE, 224, 160, 128);
    }

    private static void numberedOneByte() {
        says("Terms 1", "3 NUMBERED: LETTERS below 128 but 38");
        dueBoth(3, new int[] {0, 35, 37, 39, 59, 127}, 0, 35, 37, 39, 59, 127);
        dueRead(3, NONE, 0, 128);
        dueRead(3, NONE, 0, 255);
        dueRead(3, NONE, 0, 38);
    }

    private static void numberedOthers() {
        says("Terms 1", "others are & # (38, 35), the number in digits");
        dueBoth(3, new int[] {38}, signs("&#38;"));
        dueBoth(3, new int[] {128, 999}, signs("&#128;&#999;"));
        dueBoth(3, new int[] {1000, 9999}, signs("&#1000;&#9999;"));
        dueBoth(3, new int[] {10000, 65535}, signs("&#10000;&#65535;"));
        dueRead(3, NONE, 0, signs("&#;"));
        dueRead(3, NONE, 0, signs("&#23/;"));
        dueRead(3, NONE, 0, signs("&#23:;"));
        dueRead(3, NONE, 0, signs("&#-38;"));
        dueRead(3, NONE, 0, signs("&#x80;"));
        dueRead(3, NONE, 0, signs("&128;"));
        dueRead(3, NONE, 0, signs("&#128:"));
        // a number beyond all ints comes to 233 if it wraps round
        dueRead(3, NONE, 0, signs("&#4294967529;"));
    }

    private static void numberedZeroAhead() {
        says("Terms 1", "without a 0 ahead");
        dueRead(3, NONE, 0, signs("&#038;"));
        dueRead(3, NONE, 0, signs("&#0128;"));
        dueRead(3, NONE, 0, signs("&#0;"));
        dueRead(3, NONE, 0, signs("&#00;"));
        dueRead(3, 1, NONE, signs("&#200;"));
        dueRead(3, 1, NONE, signs("&#40000;"));
    }

    private static void numberedNoOthers() {
        says("Terms 1", "no others may be told so");
        dueRead(3, NONE, 0, signs("&#1;"));
        dueRead(3, NONE, 0, signs("&#37;"));
        dueRead(3, 1, NONE, signs("&#38;"));
        dueRead(3, NONE, 0, signs("&#39;"));
        dueRead(3, NONE, 0, signs("&#127;"));
        dueRead(3, 1, NONE, signs("&#128;"));
    }

    private static void toldOnce() {
        says("Terms 1", "each byte and each LETTER at most once");
        TextMender x = new TextMender();
        due("told", x.span(4, 10, 1, 1000, 0), 1);
        due("the byte again", x.span(4, 10, 1, 1001, 0), NONE);
        due("the letter again", x.span(4, 11, 1, 1000, 0), NONE);
        due("both again", x.span(4, 10, 1, 1000, 0), NONE);
        due("one letter for two bytes", x.span(4, 20, 2, 1005, 0), NONE);
        due("the other code has neither", x.span(5, 10, 1, 1000, 0), 1);
        due("all 256", x.blank(4) ? x.span(4, 0, 256, 255, -1) : NONE, 256);
        due("a byte more", x.span(4, 0, 1, 1000, 0), NONE);
    }

    private static void faultOfWritten() {
        says("Terms 1", "its FAULT: the first place of a LETTER that the CODE has not");
        dueNotWritten(0, 0, 200, 97, 300);
        dueNotWritten(0, 2, 97, 97, 200, 300, 97);
        dueNotWritten(1, 3, 97, 97, 200, 300, 256);
        dueNotWritten(4, 0, 97);
        int[] last = same(300, 97);
        last[299] = 128;
        dueNotWritten(0, 299, last);
    }

    private static void faultOfRead() {
        says("Terms 1", "the FAULT is the place of the first byte of what is no LETTER");
        dueRead(0, NONE, 2, 1, 2, 200, 201);
        dueRead(2, NONE, 3, 97, 195, 169, 195, 97, 128);
        dueRead(2, NONE, 1, 97, 226, 130, 97);
        dueRead(3, NONE, 7, signs("a&#233;&#97;"));
        dueRead(4, NONE, 0, 0);
        int[] last = same(300, 97);
        last[299] = 128;
        dueRead(0, NONE, 299, last);
    }

    private static void faultOfCut() {
        says("Terms 1", "(or of one that is cut)");
        dueRead(2, NONE, 1, 97, 195);
        dueRead(2, NONE, 1, 97, 226);
        dueRead(2, NONE, 1, 97, 226, 130);
        dueRead(3, NONE, 2, signs("ab&"));
        dueRead(3, NONE, 2, signs("ab&#"));
        dueRead(3, NONE, 2, signs("ab&#3"));
        dueRead(3, NONE, 2, signs("ab&#38"));
        dueRead(3, NONE, 2, signs("ab&#65535"));
    }

    // ---- 1, harms

    private static void canBeDone() {
        says("Terms 1", "It CAN be DONE to a text if there is no FAULT");
        TextMender x = with("a\u00e9");
        due("a fault of written", x.harm(0, 1), NONE);
        due("where()", x.where(), 1);
        due("a fault of read", x.harm(1, 0), NONE);
        due("where()", x.where(), 1);
        due("none", x.harm(1, 1), 2);
        due("where()", x.where(), NONE);
    }

    private static void placesOfBytes() {
        says("Terms 1", "(those of READ count as places of bytes)");
        TextMender x = with("\u20ac\u00e9ab");
        x.span(4, 128, 128, 1000, 1);
        x.span(4, 97, 1, 97, 0);
        due("letters of three bytes, two, one, and none such", x.harm(2, 4), NONE);
        due("where()", x.where(), 3 + 2 + 1);
        due("the same by undo()", x.undo(4, 2), NONE);
        due("where()", x.where(), 3 + 2 + 1);
    }

    private static void canBeUndone() {
        says("Terms 1", "It CAN be UNDONE if (b, a) CAN be DONE");
        TextMender x = with("\u00c3\u00a9");
        due("it can", x.undo(2, 1), 1);
        due("the text again", x.harm(2, 1), 2);
        dueText("the text again", x, "\u00c3\u00a9");
        due("it can not: a fault of written", x.undo(2, 0), NONE);
        due("it can not: a fault of read", x.undo(0, 1), NONE);
        TextMender y = with("\u00c3");
        due("it can not: cut", y.undo(2, 1), NONE);
    }

    private static void dueRoughly(int b, int[] letters, String want) {
        TextMender x = with(letters);
        int marks = (int) want.chars().filter(c -> c == MARK).count();
        due("rough(1, " + b + ")", x.rough(1, b), marks);
        dueText("rough(1, " + b + ")", x, want);
    }

    private static void roughlyFirstByteAlone() {
        says("Terms 1", "(the first byte at hand alone; it goes on behind it)");
        dueRoughly(2, new int[] {226, 130, 97}, "\ufffd\ufffda");
        dueRoughly(2, new int[] {226, 226, 130, 172}, "\ufffd\u20ac");
        dueRoughly(2, new int[] {226, 195, 169}, "\ufffd\u00e9");
        dueRoughly(2, new int[] {97, 226, 130}, "a\ufffd\ufffd");
        dueRoughly(2, new int[] {237, 160, 128}, "\ufffd\ufffd\ufffd");
        dueRoughly(3, signs("&&#38;"), "\ufffd&");
        dueRoughly(3, signs("&#97;"), "\ufffd#97;");
        dueRoughly(3, signs("&#&#233;&"), "\ufffd#\u00e9\ufffd");
        dueRoughly(0, new int[] {127, 128, 255}, "\u007f\ufffd\ufffd");
        dueRoughly(4, new int[] {0, 255}, "\ufffd\ufffd");
        dueRoughly(1, new int[] {0, 255}, "\u0000\u00ff");
    }

    // ---- 2

    private static void listOfSix() {
        says("Terms 2", "THE LIST has at most 6 HARMS");
        TextMender x = new TextMender();
        for (int h = 0; h < 6; h++) {
            due("list()", x.list(h, h), h);
        }
        due("a seventh", x.list(0, 1), NONE);
        due("six", x.count(2), 6);
    }

    private static void rowsOfOneToThree() {
        says("Terms 2", "A ROW is 1 to 3 numbers of HARMS of THE LIST");
        TextMender x = with("a");
        x.list(0, 0);
        for (int n = 1; n <= 3; n++) {
            due("rows(" + n + ")", x.rows(n), n);
            due("its last has so many", x.row(n - 1, 0), n);
        }
    }

    private static void eachCanBeUndone() {
        says("Terms 2", "(each CAN be UNDONE)");
        // the second one can be undone after the first, but the first one can not
        TextMender x = with("\u0410\u00a9");
        x.list(2, 1);
        due("none", x.rows(3), 0);
        TextMender y = with("\u00c3\u00a9");
        y.list(2, 1);
        due("once, for what comes has no second", y.rows(3), 1);
        TextMender z = with("\u00c3\u0083\u00c2\u00a9");
        z.list(2, 1);
        due("twice", z.rows(3), 2);
    }

    private static void orderOfRows() {
        says("Terms 2", "ROWS are in order by how many HARMS they have, then by the first number that is not alike");
        TextMender x = with("a");
        x.list(0, 1);
        x.list(1, 0);
        due("rows(3)", x.rows(3), 14);
        int[][] want = {{0}, {1}, {0, 0}, {0, 1}, {1, 0}, {1, 1}, {0, 0, 0}, {0, 0, 1}, {0, 1, 0}, {0, 1, 1}, {1, 0, 0},
            {1, 0, 1}, {1, 1, 0}, {1, 1, 1}};
        for (int i = 0; i < want.length; i++) {
            due("row(" + i + ", 0)", x.row(i, 0), want[i].length);
            for (int k = 0; k < 3; k++) {
                due("row(" + i + ", " + (k + 1) + ")", x.row(i, k + 1), k < want[i].length ? want[i][k] : NONE);
            }
        }
    }

    // ---- 3

    private static void blanksAround() {
        says("Terms 3", "a blank (32) stands ahead of the first one and behind the last one");
        TextMender x = with("ab");
        x.cost(32, 97, 100);
        due("ahead", x.worth(), 100 + 4 + 9);
        x.cost(98, 32, 150);
        due("behind", x.worth(), 100 + 4 + 150);
        x.cost(97, 32, 1);
        x.cost(32, 98, 1);
        due("no others", x.worth(), 100 + 4 + 150);
        due("of one letter", with("a").worth(), 18);
        due("of 300", with(same(300, 97)).worth(), 9 + 299 * 4 + 9);
    }

    private static void costOfNoLetters() {
        says("Terms 3", "(of no LETTERS the cost of two blanks)");
        TextMender x = new TextMender();
        due("none", x.worth(), 4);
        x.cost(32, 32, 200);
        due("as told", x.worth(), 200);
        put(x, 32);
        x.text();
        due("of one blank", x.worth(), 400);
    }

    private static void costToldElse() {
        says("Terms 3", "The cost of x, y, as it was told; else");
        TextMender x = with(97, MARK);
        due("not told", x.worth(), 9 + 39 + 39);
        x.cost(97, MARK, 0);
        due("told as 0, and nothing more for SORT 0", x.worth(), 9 + 39);
        x.cost(97, MARK, 200);
        due("told again", x.worth(), 9 + 200 + 39);
        x.cost(MARK, 97, 1);
        due("the other way round", x.worth(), 9 + 200 + 39);
    }

    private static void costOfSorts() {
        says("Terms 3", "4 if both are of one SORT, 9 if not, and 30 more for each of them that is of SORT 0");
        due("one sort", with("ab").worth(), 9 + 4 + 9);
        due("two sorts", with("aB").worth(), 9 + 9 + 9);
        due("the blanks", with("  ").worth(), 12);
        due("one of sort 0", with(97, 128).worth(), 9 + 39 + 39);
        due("both of sort 0", with(128, 129).worth(), 39 + 64 + 39);
    }

    /** The first and the last of each SORT cost with another one of it 4; what stands beside them is of another. */
    private static void sorts() {
        says("Terms 3", "SORTS: 1 letters a .. z, 2 A .. Z, 3 digits, 4 the blank, 5 all others from 33 to 126");
        int[][] sort = {{'a', 'z'}, {'A', 'Z'}, {'0', '9'}, {33, 47, 58, 64, 91, 96, 123, 126}, {192, 214, 216, 246, 248, 591},
            {880, 1327}};
        for (int s = 0; s < sort.length; s++) {
            for (int letter : sort[s]) {
                due("of one sort: " + letter, with(sort[s][0], letter).worth(), 22);
                for (int other = 1; other < sort.length; other++) {
                    int beside = sort[(s + other) % sort.length][0];
                    due("not of the sort of " + beside + ": " + letter, with(beside, letter).worth(), 27);
                    due("not of the sort of " + beside + ": " + letter, with(letter, beside).worth(), 27);
                }
            }
        }
        due("the blank", with(32).worth(), 8);
        says("Terms 3", "6 192 .. 591 but 215 and 247, 7 880 .. 1327, 0 all others");
        for (int letter : new int[] {0, 31, 127, 128, 160, 191, 215, 247, 592, 879, 1328, 8364, 65533, 65535}) {
            due("of sort 0: " + letter, with(letter).worth(), 78);
        }
    }

    // ---- 4

    private static TextMender withMarkAndHarm() {
        TextMender x = with(195, 169, MARK);
        x.span(4, 0, 3, 1000, 1);
        x.cost(195, 169, 200);
        x.list(2, 2);
        x.list(4, 4);
        x.choices(1, 2);
        put(x, 97);
        return x;
    }

    private static void changes() {
        says("Terms 4", "CHANGES are text(), read(), harm(), rough(), undo(), mend(), parts(), chosen() that are not refused");
        Call[] calls = {TextMender::text, x -> x.read(0), x -> x.harm(2, 2), x -> x.rough(2, 2), x -> x.undo(2, 2),
            x -> x.parts(0), x -> x.chosen(0) ? 1 : NONE};
        for (int k = 0; k < calls.length; k++) {
            TextMender x = withMarkAndHarm();
            due("not refused, call " + k, calls[k].on(x) >= 0, true);
            due("a change, call " + k, x.count(3), 2);
            due("taken back, call " + k, x.back(), 1);
            dueText("as it was, call " + k, x, 195, 169, MARK);
        }
        TextMender y = with(195, 169);
        y.list(2, 1);
        due("mend()", y.mend(1, 1), 0);
        due("a change, mend()", y.count(3), 2);
        due("taken back, mend()", y.back(), 1);
        dueText("as it was, mend()", y, 195, 169);
    }

    private static void noChanges() {
        says("Terms 4", "CHANGES are text(), read(), harm(), rough(), undo(), mend(), parts(), chosen() that are not refused");
        Call[] calls = {x -> x.read(9), x -> x.harm(0, 0), x -> x.rough(0, 0), x -> x.undo(0, 0), x -> x.mend(1, 1),
            x -> x.mend(0, 1), x -> x.parts(-1), x -> x.chosen(-1) ? 1 : NONE, x -> x.choices(9, 9)};
        TextMender x = withMarkAndHarm();
        for (int k = 0; k < calls.length; k++) {
            due("refused, call " + k, calls[k].on(x), NONE);
            due("no change, call " + k, x.count(3), 1);
        }
        put(x, -1);
        due("text()", x.text(), NONE);
        x.span(4, 100, 1, 2000, 0);
        x.blank(4);
        x.list(0, 0);
        x.unlist();
        x.cost(1, 2, 3);
        x.rows(1);
        x.choices(1, 2);
        due("no changes are the others", x.count(3), 1);
    }

    private static void latestTwenty() {
        says("Terms 4", "the latest 20 can be taken back");
        TextMender x = new TextMender();
        for (int i = 1; i <= 45; i++) {
            put(x, same(i, i));
            x.text();
            due("after " + i, x.count(3), Math.min(20, i));
        }
        for (int i = 44; i >= 25; i--) {
            due("back()", x.back(), i - 25);
            due("as it was", x.count(0), i);
            due("as it was", x.at(i - 1), i);
        }
        due("no more", x.back(), NONE);
        due("stays", x.count(0), 25);
    }

    /** All of them of the greatest length: by (4, 5) each letter 97 .. 99 becomes the next one, and 99 becomes 97. */
    private static void latestTwentyOf300() {
        says("Terms 4", "the latest 20 can be taken back");
        TextMender x = with(same(300, 97));
        x.span(4, 1, 3, 97, 1);
        x.span(5, 1, 2, 98, 1);
        x.span(5, 3, 1, 97, 0);
        for (int k = 1; k <= 45; k++) {
            due("harm()", x.harm(4, 5), 300);
        }
        for (int k = 44; k >= 25; k--) {
            due("back()", x.back(), k - 25);
            due("its length", x.count(0), 300);
            due("its first", x.at(0), 97 + k % 3);
            due("its last", x.at(299), 97 + k % 3);
        }
        due("no more", x.back(), NONE);
    }
}
