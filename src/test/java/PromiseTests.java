/** For each promise of the document: ordinary inputs, the edges that it names, and wrong inputs. */
public final class PromiseTests extends Due {
    public static void main(String[] args) {
        newObject();
        feedAndEnd();
        text();
        read();
        readMany();
        readNumbered();
        spanAndBlank();
        count();
        at();
        sizeAndByteOf();
        where();
        harm();
        harmLimits();
        rough();
        undo();
        safe();
        back();
        listAndUnlist();
        rowsAndRow();
        cost();
        worth();
        mend();
        parts();
        partsTies();
        partsLimits();
        choices();
        choicesOrder();
        choicesRefused();
        chosen();
        tellAndEnd();
    }

    // ---- promises

    private static void newObject() {
        TextMender x = new TextMender();
        for (int what = 0; what <= 7; what++) {
            due("1 count(" + what + ")", x.count(what), 0);
        }
        due("1 where()", x.where(), NONE);
        due("1 row", x.row(0, 0), NONE);
        due("1 choice", x.choice(0, 0), NONE);
        due("1 chosen", x.chosen(0), false);
        due("1 back", x.back(), NONE);
        due("1 span of an empty code", x.span(4, 0, 256, 0, 1), 256);
        due("1 NONE", NONE, -1);
    }

    private static void feedAndEnd() {
        TextMender x = new TextMender();
        for (int i = 1; i <= 180; i++) {
            due("2 feed", x.feed(i, Integer.MIN_VALUE, Integer.MAX_VALUE, -1, 65536), 5 * i);
        }
        due("2 feed over 900", x.feed(1, 1, 1, 1, 1), NONE);
        due("2 none came", x.count(1), 900);
        due("3 end below 0", x.end(-1), false);
        due("3 end of too many", x.end(901), false);
        due("3 end of all", x.end(900), true);
        due("3 end", x.end(896), true);
        due("2 feed would be 901", x.feed(1, 1, 1, 1, 1), NONE);
        due("3 end", x.end(895), true);
        due("2 feed to 900", x.feed(1, 1, 1, 1, 1), 900);
        due("3 end of none", x.end(0), true);
        due("3 count", x.count(1), 0);
        due("3 end of an empty tape", x.end(0), true);
        due("3 end of more", x.end(1), false);
    }

    private static void text() {
        TextMender x = with(same(300, 97));
        due("4 tape is empty", x.count(1), 0);
        put(x, same(301, 98));
        due("4 more than 300", x.text(), NONE);
        due("4 the text stays", x.at(0), 97);
        x.end(0);
        int[] bad = same(301, 99);
        bad[4] = 55296;
        put(x, bad);
        due("4 more than 300 is asked first", x.text(), NONE);
        due("4 where", x.where(), NONE);
        x.end(0);
        for (int number : new int[] {-1, 55296, 56000, 57343, 65536, Integer.MAX_VALUE, Integer.MIN_VALUE}) {
            put(x, 1, 2, number, 3, number);
            due("4 no letter " + number, x.text(), NONE);
            due("4 where " + number, x.where(), 2);
            due("4 tape is empty", x.count(1), 0);
        }
        due("4 changes", x.count(3), 1);
        put(x, 0, 55295, 57344, 65535);
        due("4 edges", x.text(), 4);
        due("4 where", x.where(), NONE);
        due("4 last", x.at(3), 65535);
        due("4 empty tape", x.text(), 0);
        due("4 empty", x.count(0), 0);
        due("4 changes", x.count(3), 3);
    }

    private static void read() {
        dueRead(0, 2, NONE, 0, 127);
        dueRead(0, NONE, 1, 0, 128);
        dueRead(1, 3, NONE, 0, 128, 255);
        dueRead(1, NONE, 2, 0, 128, 256);
        dueRead(1, NONE, 0, -1, 256);
        dueRead(4, NONE, 0, 7);
        dueRead(6, NONE, NONE, 255);
        dueRead(-1, NONE, NONE, 7);
        dueRead(5, 0, NONE);
        dueRead(1, 300, NONE, same(300, 200));
        dueRead(1, NONE, NONE, same(301, 200));
        TextMender x = with("abc");
        for (int code : new int[] {0, 9}) {
            put(x, 250);
            due("5 refused", x.read(code), NONE);
            due("5 tape is empty", x.count(1), 0);
            dueText("5 the text stays", x, "abc");
        }
        due("5 no change", x.count(3), 1);
        due("5 a fault of before", x.size(4), NONE);
        due("5 no code", x.read(6), NONE);
        due("5 where is told anew", x.where(), NONE);
        x.span(5, 10, 2, 1040, 1);
        put(x, 11, 10, 11);
        due("5 told", x.read(5), 3);
        dueText("5 told", x, "\u0411\u0410\u0411");
        put(x, 11, 12);
        due("5 told", x.read(5), NONE);
        due("5 where", x.where(), 1);
    }

    private static void readMany() {
        dueRead(2, 1, NONE, 0x7f);
        dueRead(2, NONE, 1, 65, 0x80);
        dueRead(2, NONE, 0, 0xc1, 0xbf);
        dueRead(2, 1, NONE, 0xc2, 0x80);
        dueRead(2, 1, NONE, 0xdf, 0xbf);
        dueRead(2, NONE, 1, 65, 0xdf);
        dueRead(2, NONE, 0, 0xdf, 0x7f);
        dueRead(2, NONE, 0, 0xdf, 0xc0);
        dueRead(2, NONE, 0, 0xe0, 0x9f, 0xbf);
        dueRead(2, 1, NONE, 0xe0, 0xa0, 0x80);
        dueRead(2, 1, NONE, 0xed, 0x9f, 0xbf);
        dueRead(2, NONE, 0, 0xed, 0xa0, 0x80);
        dueRead(2, NONE, 0, 0xed, 0xbf, 0xbf);
        dueRead(2, 1, NONE, 0xee, 0x80, 0x80);
        dueRead(2, 1, NONE, 0xef, 0xbf, 0xbf);
        dueRead(2, NONE, 2, 65, 66, 0xef, 0xbf);
        dueRead(2, NONE, 0, 0xef, 0xbf, 65);
        dueRead(2, NONE, 0, 0xf0, 0x90, 0x80, 0x80);
        dueRead(2, NONE, 0, 0xff);
        TextMender x = new TextMender();
        put(x, 0xc3, 0xa9, 0xe2, 0x82, 0xac, 0x61);
        due("5 many", x.read(2), 3);
        dueText("5 many", x, "\u00e9\u20aca");
    }

    private static void dueNumbered(String s, int want, int fault) {
        dueRead(3, want, fault, signs(s));
    }

    private static void readNumbered() {
        dueNumbered("a#;9", 4, NONE);
        dueNumbered("&#38;", 1, NONE);
        dueNumbered("&#128;", 1, NONE);
        dueNumbered("x&#127;", NONE, 1);
        dueNumbered("&#97;", NONE, 0);
        dueNumbered("&#0;", NONE, 0);
        dueNumbered("&#038;", NONE, 0);
        dueNumbered("&#;", NONE, 0);
        dueNumbered("&;", NONE, 0);
        dueNumbered("ab&", NONE, 2);
        dueNumbered("ab&#", NONE, 2);
        dueNumbered("ab&#233", NONE, 2);
        dueNumbered("ab&#233,", NONE, 2);
        dueNumbered("&#x41;", NONE, 0);
        dueNumbered("&x233;", NONE, 0);
        dueNumbered("&&233;", NONE, 0);
        dueNumbered("&233;", NONE, 0);
        dueNumbered("##233;", 6, NONE);
        dueNumbered("&#23:;", NONE, 0);
        dueNumbered("&#23/;", NONE, 0);
        dueNumbered("&#200;&#1090;", 2, NONE);
        dueNumbered("&#65535;", 1, NONE);
        dueNumbered("&#65536;", NONE, 0);
        dueNumbered("&#55295;&#55296;", NONE, 8);
        dueNumbered("&#57343;", NONE, 0);
        dueNumbered("&#57344;", 1, NONE);
        dueNumbered("&#100000;", NONE, 0);
        dueNumbered("&#4294967529;", NONE, 0);
        dueNumbered("&#233;&#234;a", 3, NONE);
        dueNumbered("\u0080", NONE, 0);
        TextMender x = new TextMender();
        put(x, signs("a&#38;b&#8364;"));
        due("5 numbered", x.read(3), 4);
        dueText("5 numbered", x, "a&b\u20ac");
    }

    private static void dueSpan(TextMender x, int want, int code, int from, int n, int letter, int step) {
        due("6 span(" + code + ", " + from + ", " + n + ", " + letter + ", " + step + ")",
            x.span(code, from, n, letter, step), want);
        due("6 where()", x.where(), NONE);
    }

    private static void spanAndBlank() {
        TextMender x = new TextMender();
        dueSpan(x, NONE, 3, 0, 1, 0, 1);
        dueSpan(x, NONE, 6, 0, 1, 0, 1);
        dueSpan(x, NONE, 4, -1, 2, 0, 1);
        dueSpan(x, NONE, 4, 256, 1, 0, 1);
        dueSpan(x, NONE, 4, 255, 2, 0, 1);
        dueSpan(x, NONE, 4, 0, 257, 0, 1);
        dueSpan(x, NONE, 4, 0, 0, 0, 1);
        dueSpan(x, NONE, 4, 0, -1, 0, 1);
        dueSpan(x, NONE, 4, Integer.MAX_VALUE, Integer.MAX_VALUE, 0, 1);
        dueSpan(x, NONE, 4, 1, Integer.MAX_VALUE, 0, 1);
        dueSpan(x, NONE, 4, 0, 1, -1, 1);
        dueSpan(x, NONE, 4, 0, 1, 65536, -1);
        dueSpan(x, NONE, 4, 0, 1, 55296, 1);
        dueSpan(x, NONE, 4, 0, 2, 55295, 1);
        dueSpan(x, NONE, 4, 0, 2, 0, -1);
        dueSpan(x, NONE, 4, 0, 2, 5, 256);
        dueSpan(x, NONE, 4, 0, 2, 500, -256);
        dueSpan(x, NONE, 4, 0, 2, 5, 0);
        due("6 nothing came", x.count(6), 0);
        dueSpan(x, NONE, 5, 0, 256, 65280, -255);
        dueSpan(x, 200, 5, 56, 200, 50745, -255);
        dueSpan(x, 1, 4, 9, 1, 5, 0);
        dueSpan(x, NONE, 4, 9, 1, 6, 0);
        dueSpan(x, NONE, 4, 10, 1, 5, 0);
        dueSpan(x, NONE, 4, 8, 2, 100, 1);
        dueSpan(x, NONE, 4, 10, 3, 3, 1);
        dueSpan(x, 3, 4, 254, 2, 55294, 1);
        due("6 count", x.count(6), 3);
        due("7 blank(5)", x.blank(5), true);
        due("7 count(7)", x.count(7), 0);
        due("7 count(6)", x.count(6), 3);
        due("7 blank(3)", x.blank(3), false);
        due("7 blank(6)", x.blank(6), false);
        due("7 blank(5)", x.blank(5), true);
        dueSpan(x, 200, 5, 0, 200, 0, 255);
        due("7 blank(4)", x.blank(4), true);
        dueSpan(x, 1, 4, 9, 1, 5, 0);
    }

    private static void count() {
        TextMender x = with(97, MARK, 98, MARK);
        x.feed(1, 2, 3, 4, 5);
        x.list(0, 1);
        x.list(1, 0);
        x.cost(97, 98, 5);
        x.cost(97, 98, 6);
        x.cost(98, 97, 6);
        x.cost(98, 98, 6);
        x.span(4, 0, 4, 0, 1);
        x.span(5, 0, 6, 0, 1);
        int[] want = {4, 5, 2, 1, 2, 3, 4, 6};
        for (int what = 0; what < 8; what++) {
            due("8 count(" + what + ")", x.count(what), want[what]);
        }
        due("8 count(8)", x.count(8), NONE);
        due("8 count(-1)", x.count(-1), NONE);
    }

    private static void at() {
        TextMender x = with("ab");
        due("9 at(0)", x.at(0), 'a');
        due("9 at(1)", x.at(1), 'b');
        dueNoLetter(x, 2);
        dueNoLetter(x, -1);
        dueNoLetter(x, Integer.MAX_VALUE);
        dueNoLetter(new TextMender(), 0);
        x.text();
        dueNoLetter(x, 0);
    }

    private static void dueBytes(TextMender x, int code, int... bytes) {
        due("10 size(" + code + ")", x.size(code), bytes.length);
        due("10 where", x.where(), NONE);
        for (int i = 0; i < bytes.length; i++) {
            due("11 byteOf(" + code + ", " + i + ")", x.byteOf(code, i), bytes[i]);
        }
        due("11 byteOf behind", x.byteOf(code, bytes.length), NONE);
        due("11 byteOf ahead", x.byteOf(code, -1), NONE);
        due("11 where", x.where(), NONE);
    }

    private static void dueFault(TextMender x, int code, int fault) {
        due("10 size(" + code + ")", x.size(code), NONE);
        due("10 where", x.where(), fault);
        x.size(2);
        due("11 byteOf(" + code + ", 0)", x.byteOf(code, 0), NONE);
        due("11 where", x.where(), fault);
    }

    private static void sizeAndByteOf() {
        TextMender x = with(127, 128, 255, 256);
        dueFault(x, 0, 1);
        dueFault(x, 1, 3);
        dueFault(x, 4, 0);
        dueFault(x, 6, NONE);
        dueFault(x, -1, NONE);
        dueBytes(x, 2, 127, 194, 128, 195, 191, 196, 128);
        x.span(4, 7, 1, 127, 0);
        dueFault(x, 4, 1);
        x.span(4, 20, 1, 128, 0);
        x.span(4, 30, 2, 255, 1);
        dueBytes(x, 4, 7, 20, 30, 31);
        dueBytes(with(0x7ff, 0x800, 0xffff), 2, 0xdf, 0xbf, 0xe0, 0xa0, 0x80, 0xef, 0xbf, 0xbf);
        dueBytes(with("a&\u00e9"), 3, signs("a&#38;&#233;"));
        dueBytes(with(127, 128, 1000, 9999, 10000), 3, signs("\u007f&#128;&#1000;&#9999;&#10000;"));
        dueBytes(new TextMender(), 3);
        dueBytes(with(0, 255), 1, 0, 255);
        TextMender longOne = with(same(300, 65535));
        due("10 more than 900", longOne.size(3), 2400);
        due("10 900", longOne.size(2), 900);
        due("11 byte 2399", longOne.byteOf(3, 2399), 59);
        due("11 byte 2400", longOne.byteOf(3, 2400), NONE);
        due("10 no change", longOne.count(3), 1);
    }

    /** Each call that where() tells of sets it anew; the others leave it alone. */
    private static void where() {
        for (int k = 0; k < 13; k++) {
            TextMender x = with("a\u0100");
            due("12 size", x.size(1), NONE);
            due("12 where", x.where(), 1);
            x.feed(1, 2, 3, 4, 5);
            x.end(0);
            x.blank(4);
            x.count(0);
            x.at(0);
            x.unlist();
            x.row(0, 0);
            x.cost(1, 2, 3);
            x.worth();
            x.choice(0, 0);
            x.chosen(0);
            x.back();
            x.back();
            due("12 where stays", x.where(), 1);
            switch (k) {
                case 0: x.text(); break;
                case 1: x.read(1); break;
                case 2: x.span(4, 0, 1, 0, 0); break;
                case 3: x.size(2); break;
                case 4: x.byteOf(2, 0); break;
                case 5: x.harm(2, 1); break;
                case 6: x.rough(2, 1); break;
                case 7: x.undo(2, 2); break;
                case 8: x.safe(0, 0); break;
                case 9: x.list(0, 0); break;
                case 10: x.rows(1); break;
                case 11: x.mend(1, 1); break;
                default: x.parts(2000); break;
            }
            due("12 where is told anew by " + k, x.where(), NONE);
        }
        TextMender x = with("a\u0100");
        x.list(0, 1);
        x.rows(3);
        due("12 rows() tells no fault", x.where(), NONE);
        x.mend(3, 1);
        due("12 mend() tells no fault", x.where(), NONE);
        x.parts(0);
        due("12 parts() tells no fault", x.where(), NONE);
        x.size(1);
        x.choices(1, 2);
        due("12 choices() without a fault", x.where(), NONE);
    }

    private static void harm() {
        TextMender x = with("caf\u00e9");
        due("13 harm(2, 1)", x.harm(2, 1), 5);
        dueText("13", x, "caf\u00c3\u00a9");
        due("13 harm(2, 1)", x.harm(2, 1), 7);
        dueText("13", x, "caf\u00c3\u0083\u00c2\u00a9");
        due("13 fault of written", x.harm(0, 1), NONE);
        due("13 where", x.where(), 3);
        due("13 fault of read", x.harm(2, 0), NONE);
        due("13 where", x.where(), 3);
        due("13 no code", x.harm(6, 0), NONE);
        due("13 where", x.where(), NONE);
        due("13 no code", x.harm(0, -1), NONE);
        due("13 changes", x.count(3), 3);
        TextMender y = with("\u00e9a&");
        due("13 harm(3, 1)", y.harm(3, 1), 12);
        dueText("13", y, "&#233;a&#38;");
        due("13 harm(1, 3)", y.harm(1, 3), 3);
        due("13 of bytes", y.harm(2, 3), NONE);
        due("13 where", y.where(), 0);
        TextMender z = with("\u0100a\u00e9&");
        due("13 a place of bytes", z.harm(2, 4), NONE);
        due("13 where", z.where(), 0);
        z.span(4, 128, 100, 200, 1);
        due("13 a place of bytes", z.harm(2, 4), NONE);
        due("13 where", z.where(), 2);
        due("13 empty", new TextMender().harm(0, 3), 0);
    }

    private static void harmLimits() {
        TextMender x = with(same(150, 233));
        due("13 300 letters", x.harm(2, 1), 300);
        due("13 more than 300", x.harm(2, 1), NONE);
        due("13 where", x.where(), NONE);
        TextMender y = with(same(300, 65535));
        due("13 900 bytes", y.harm(2, 2), 300);
        due("13 more than 900 bytes", y.harm(3, 3), NONE);
        due("13 where", y.where(), NONE);
        due("13 stays", y.count(0), 300);
        TextMender z = with(same(112, 65535));
        due("13 896 bytes", z.harm(3, 3), 112);
        z = with(same(113, 65535));
        due("13 904 bytes", z.harm(3, 3), NONE);
        int[] just = same(300, 65535);
        java.util.Arrays.fill(just, 112, 116, 97);
        due("13 900 bytes", with(java.util.Arrays.copyOf(just, 116)).harm(3, 3), 116);
        just[116] = 97;
        due("13 901 bytes", with(java.util.Arrays.copyOf(just, 117)).harm(3, 3), NONE);
    }

    private static void rough() {
        TextMender x = with("a\u00e9\u20ac");
        due("14 rough(2, 0)", x.rough(2, 0), 5);
        dueText("14", x, "a\ufffd\ufffd\ufffd\ufffd\ufffd");
        due("14 marks", x.count(4), 5);
        x.rough(2, 2);
        due("14 marks stay", x.count(4), 5);
        due("14 fault of written", x.rough(1, 2), NONE);
        due("14 where", x.where(), 1);
        due("14 no code", x.rough(0, 6), NONE);
        due("14 where", x.where(), NONE);
        due("14 no code", x.rough(-1, 0), NONE);
        due("14 changes", x.count(3), 3);
        // the first byte alone is a MARK; what stands behind it is read by itself
        TextMender y = with("\u00e2\u0082a\u00e2\u0082\u00ac\u00c3");
        due("14 rough(1, 2)", y.rough(1, 2), 3);
        dueText("14", y, "\ufffd\ufffda\u20ac\ufffd");
        TextMender z = with("&#97;&#233;&");
        due("14 rough(0, 3)", z.rough(0, 3), 2);
        dueText("14", z, "\ufffd#97;\u00e9\ufffd");
        TextMender w = with(same(150, 233));
        due("14 300", w.rough(2, 0), 300);
        TextMender v = with(same(151, 233));
        due("14 more than 300", v.rough(2, 0), NONE);
        due("14 where", v.where(), NONE);
        due("14 more than 900 bytes", with(same(113, 65535)).rough(3, 3), NONE);
        int[] just = same(117, 97);
        java.util.Arrays.fill(just, 0, 112, 65535);
        due("14 900 bytes", with(java.util.Arrays.copyOf(just, 116)).rough(3, 3), 0);
        due("14 901 bytes", with(just).rough(3, 3), NONE);
    }

    private static void undo() {
        TextMender x = with("caf\u00c3\u00a9");
        due("15 undo(2, 1)", x.undo(2, 1), 4);
        dueText("15", x, "caf\u00e9");
        due("15 it can not", x.undo(2, 1), NONE);
        due("15 where, of the bytes", x.where(), 3);
        due("15 it can not", x.undo(2, 0), NONE);
        due("15 where, of the text", x.where(), 3);
        due("15 no code", x.undo(6, 2), NONE);
        due("15 where", x.where(), NONE);
        due("15 no code", x.undo(2, -1), NONE);
        due("15 changes", x.count(3), 2);
        due("15 undo(1, 2)", x.undo(1, 2), 5);
        dueText("15", x, "caf\u00c3\u00a9");
        TextMender y = with(same(151, 233));
        due("15 more than 300", y.undo(1, 2), NONE);
        due("15 where", y.where(), NONE);
        TextMender z = with("\u0410\u0411");
        z.span(4, 128, 2, 1040, 1);
        due("15 undo(1, 4)", z.undo(1, 4), 2);
        dueText("15", z, "\u0080\u0081");
        due("15 undo(4, 1)", z.undo(4, 1), 2);
        dueText("15", z, "\u0410\u0411");
    }

    private static void safe() {
        // codes 4: letters of bytes below 128 but &; 5: all bytes that MANY writes
        TextMender x = new TextMender();
        x.span(4, 0, 38, 5000, 1);
        x.span(4, 39, 89, 6000, 1);
        x.span(5, 0, 192, 1000, 1);
        x.span(5, 194, 46, 2000, 1);
        int[][] want = {
            {1, 1, 1, 0, 0, 1},
            {0, 1, 0, 0, 0, 0},
            {0, 1, 1, 0, 0, 1},
            {1, 1, 1, 1, 0, 1},
            {1, 1, 1, 1, 1, 1},
            {0, 1, 0, 0, 0, 1}};
        for (int a = 0; a < 6; a++) {
            for (int b = 0; b < 6; b++) {
                due("16 safe(" + a + ", " + b + ")", x.safe(a, b), want[a][b]);
            }
        }
        x.span(4, 38, 1, 7000, 0);
        due("16 with &", x.safe(4, 3), 0);
        due("16 with &", x.safe(0, 4), 1);
        due("16 with &", x.safe(3, 4), 1);
        x.blank(5);
        due("16 empty", x.safe(5, 3), 1);
        due("16 empty", x.safe(5, 2), 1);
        due("16 empty", x.safe(5, 5), 1);
        due("16 empty", x.safe(4, 5), 0);
        x.span(5, 0, 191, 1000, 1);
        x.span(5, 194, 46, 2000, 1);
        due("16 byte 191", x.safe(2, 5), 0);
        x.blank(5);
        x.span(5, 0, 192, 1000, 1);
        x.span(5, 195, 45, 2000, 1);
        due("16 byte 194", x.safe(2, 5), 0);
        x.blank(5);
        x.span(5, 0, 192, 1000, 1);
        x.span(5, 194, 45, 2000, 1);
        due("16 byte 239", x.safe(2, 5), 0);
        x.blank(4);
        x.blank(5);
        x.span(4, 0, 1, 97, 0);
        due("16 byte 0", x.safe(4, 5), 0);
        x.blank(4);
        x.span(4, 255, 1, 97, 0);
        due("16 byte 255", x.safe(4, 5), 0);
        due("16 no code", x.safe(6, 0), NONE);
        due("16 no code", x.safe(0, -1), NONE);
        due("16 no change", x.count(3), 0);
    }

    private static void back() {
        TextMender x = new TextMender();
        due("17 none", x.back(), NONE);
        for (int i = 1; i <= 25; i++) {
            put(x, same(i, 96 + i));
            x.text();
            due("17 changes", x.count(3), Math.min(i, 20));
        }
        x.harm(0, 9);
        x.text();
        for (int i = 19; i >= 0; i--) {
            due("17 back()", x.back(), i);
            due("17 length", x.count(0), 6 + i);
            due("17 letter", x.at(5 + i), 96 + 6 + i);
        }
        due("17 none", x.back(), NONE);
        due("17 stays", x.count(0), 6);
        TextMender y = with("\u00e9");
        y.harm(2, 1);
        y.rough(1, 0);
        due("17 of rough", y.back(), 2);
        dueText("17", y, "\u00c3\u00a9");
        y.undo(2, 1);
        due("17 of undo", y.back(), 2);
        y.list(2, 1);
        y.mend(1, 1);
        due("17 of mend", y.back(), 2);
        dueText("17", y, "\u00c3\u00a9");
        y.parts(0);
        due("17 of parts", y.back(), 2);
        dueText("17", y, "\u00c3\u00a9");
        put(y, 65);
        y.read(0);
        due("17 of read", y.back(), 2);
        due("17 the list stays", y.count(2), 1);
    }

    private static void listAndUnlist() {
        TextMender x = new TextMender();
        for (int i = 0; i < 6; i++) {
            due("18 list", x.list(i, 5 - i), i);
            due("18 it is there", x.list(i, 5 - i), NONE);
        }
        due("18 six", x.list(0, 0), NONE);
        due("19 unlist", x.unlist(), 6);
        due("19 unlist", x.unlist(), 0);
        due("18 the other way round", x.list(0, 1), 0);
        due("18 the other way round", x.list(1, 0), 1);
        due("18 of one code", x.list(4, 4), 2);
        due("18 no code", x.list(6, 0), NONE);
        due("18 no code", x.list(0, 6), NONE);
        due("18 no code", x.list(-1, 0), NONE);
        due("18 no code", x.list(0, -1), NONE);
        due("18 count", x.count(2), 3);
        due("18 no change", x.count(3), 0);
    }

    private static void dueRow(TextMender x, int i, int... want) {
        for (int what = 0; what <= 5; what++) {
            due("21 row(" + i + ", " + what + ")", x.row(i, what), want[what]);
        }
    }

    private static void rowsAndRow() {
        TextMender x = with("\u00e9");
        x.harm(2, 1);
        x.harm(2, 1);
        x.list(2, 1);
        due("20 rows(1)", x.rows(1), 1);
        due("20 rows(2)", x.rows(2), 2);
        due("20 rows(3)", x.rows(3), 2);
        dueRow(x, 0, 1, 0, NONE, NONE, 9 + 39 + 39, 2);
        dueRow(x, 1, 2, 0, 0, NONE, 18, 1);
        due("21 another what", x.row(0, 6), NONE);
        due("21 another what", x.row(0, -1), NONE);
        due("21 none such", x.row(2, 0), NONE);
        due("21 none such", x.row(-1, 0), NONE);
        for (int n : new int[] {0, 4, -1, Integer.MAX_VALUE}) {
            due("20 another n", x.rows(n), NONE);
        }
        x.unlist();
        x.text();
        dueRow(x, 1, 2, 0, 0, NONE, 18, 1);
        due("20 no list", x.rows(3), 0);
        due("21 none such", x.row(0, 0), NONE);
        // all rows there can be, in order
        TextMender y = with("ab");
        int[] from = {0, 0, 1, 1, 2, 2};
        int[] to = {1, 2, 0, 2, 0, 1};
        for (int h = 0; h < 6; h++) {
            y.list(from[h], to[h]);
        }
        due("20 rows(1)", y.rows(1), 6);
        due("20 rows(2)", y.rows(2), 42);
        due("20 rows(3)", y.rows(3), 258);
        dueRow(y, 5, 1, 5, NONE, NONE, 22, 2);
        dueRow(y, 6, 2, 0, 0, NONE, 22, 2);
        dueRow(y, 13, 2, 1, 1, NONE, 22, 2);
        dueRow(y, 42, 3, 0, 0, 0, 22, 2);
        dueRow(y, 42 + 36 * 2 + 6 * 3 + 4, 3, 2, 3, 4, 22, 2);
        dueRow(y, 257, 3, 5, 5, 5, 22, 2);
        due("21 none such", y.row(258, 0), NONE);
        // the first told is done first
        TextMender z = with("\u00e9");
        z.harm(2, 1);
        z.harm(3, 0);
        z.list(3, 0);
        z.list(2, 1);
        due("20 rows(2)", z.rows(2), 5);
        dueRow(z, 0, 1, 0, NONE, NONE, 9 + 39 + 39, 2);
        dueRow(z, 1, 1, 1, NONE, NONE, z.worth(), 12);
        dueRow(z, 2, 2, 0, 1, NONE, 9 + 39 + 39, 2);
        dueRow(z, 3, 2, 1, 0, NONE, 18, 1);
        dueRow(z, 4, 2, 1, 1, NONE, z.worth(), 12);
        due("20 no change", z.count(3), 3);
    }

    private static void cost() {
        TextMender x = with("ab");
        due("22 v below", x.cost(97, 98, -1), false);
        due("22 v above", x.cost(97, 98, 201), false);
        due("22 no letter", x.cost(-1, 98, 1), false);
        due("22 no letter", x.cost(97, 65536, 1), false);
        due("22 no letter", x.cost(55296, 97, 1), false);
        due("22 no letter", x.cost(97, 57343, 1), false);
        due("22 none told", x.count(5), 0);
        due("22 worth", x.worth(), 22);
        due("22 200", x.cost(97, 98, 200), true);
        due("22 worth", x.worth(), 218);
        due("22 0", x.cost(97, 98, 0), true);
        due("22 worth", x.worth(), 18);
        due("22 the other way round", x.cost(98, 97, 100), true);
        due("22 worth", x.worth(), 18);
        for (int i = 0; i < 298; i++) {
            due("22 told", x.cost(65535 - i, i, 7), true);
        }
        due("22 count", x.count(5), 300);
        due("22 300 are", x.cost(1, 1, 1), false);
        due("22 these are", x.cost(97, 98, 3), true);
        due("22 worth", x.worth(), 21);
        due("22 count", x.count(5), 300);
        due("22 no change", x.count(3), 1);
        due("22 the first is no other", x.cost(97 + 32768, 98, 3), false);
        due("22 the second is no other", x.cost(97, 98 + 32768, 3), false);
        put(x, 65535, 0, 65534, 1, 65238, 297);
        x.text();
        due("22 worth", x.worth(), (9 + 30) + 7 + 64 + 7 + 64 + 7 + 9);
    }

    private static void dueWorth(String s, int want) {
        due("23 worth of " + s, with(s).worth(), want);
    }

    private static void worth() {
        due("23 no letters", new TextMender().worth(), 4);
        dueWorth("a", 18);
        dueWorth(" ", 8);
        dueWorth("az", 22);
        dueWorth("AZ", 22);
        dueWorth("09", 22);
        dueWorth("!~", 22);
        dueWorth("@[", 22);
        dueWorth("`{", 22);
        dueWorth("/:", 22);
        dueWorth("aA", 27);
        dueWorth("A0", 27);
        dueWorth("0!", 27);
        dueWorth("\u00c0\u024f", 22);
        dueWorth("\u0370\u052f", 22);
        dueWorth("\u00c0\u0370", 27);
        for (char strange : "\u001f\u007f\u00bf\u00d7\u00f7\u0250\u036f\u0530\ufffd\u0000\uffff".toCharArray()) {
            dueWorth("a" + strange, 9 + 39 + 39);
            dueWorth("" + strange + strange, 39 + 64 + 39);
        }
        TextMender x = new TextMender();
        x.cost(32, 32, 77);
        due("23 two blanks", x.worth(), 77);
        due("23 no change", x.count(3), 0);
    }

    private static void mend() {
        TextMender x = with("\u00e9");
        x.harm(2, 1);
        x.harm(2, 1);
        int harmed = x.worth();
        due("24 no list", x.mend(3, 1), NONE);
        x.list(2, 1);
        due("24 rows", x.rows(1), 1);
        due("24 another n", x.mend(0, 1), NONE);
        due("24 another n", x.mend(4, 1), NONE);
        due("24 gain below", x.mend(2, 0), NONE);
        due("24 gain above", x.mend(2, 100001), NONE);
        due("24 too little", x.mend(2, harmed - 18 + 1), NONE);
        due("24 too little", x.mend(2, 100000), NONE);
        due("24 nothing changed", x.count(3), 3);
        due("24 mend", x.mend(2, harmed - 18), 1);
        dueText("24", x, "\u00e9");
        due("24 changes", x.count(3), 4);
        due("24 what row() tells stays", x.row(0, 4), 87);
        due("24 what row() tells stays", x.row(1, 0), NONE);
        due("24 none", x.mend(3, 1), NONE);
        due("24 back", x.back(), 3);
        due("24 of one", x.mend(1, 1), 0);
        dueText("24", x, "\u00c3\u00a9");
        // of equal ones the first; its number counts only rows that make the text
        TextMender y = with("&#233;");
        y.list(2, 1);
        y.list(1, 4);
        y.list(3, 1);
        y.list(3, 0);
        due("24 the first", y.mend(3, 1), 1);
        dueText("24", y, "\u00e9");
        TextMender z = with("a");
        z.list(0, 1);
        due("24 not less", z.mend(1, 1), NONE);
    }

    private static void parts() {
        TextMender x = with("n\u00c3\u00a9 n\u00e9");
        x.list(2, 1);
        due("25 parts(65)", x.parts(65), 1);
        dueText("25", x, "n\u00c3\u00a9 n\u00e9");
        due("25 it is a change", x.count(3), 2);
        due("25 parts(64)", x.parts(64), 2);
        dueText("25", x, "n\u00e9 n\u00e9");
        due("25 changes", x.count(3), 3);
        x.back();
        due("25 price below", x.parts(-1), NONE);
        due("25 price above", x.parts(1001), NONE);
        due("25 price 1000", x.parts(1000), 1);
        due("25 price 0", x.parts(0), 2);
        due("25 no letters", new TextMender().parts(0), NONE);
        TextMender y = with("\u00c3\u00a9&#233;\u00e9");
        y.list(2, 1);
        y.list(3, 1);
        due("25 unlike harms", y.parts(0), 3);
        dueText("25", y, "\u00e9\u00e9\u00e9");
        // a span by itself has a blank on each side
        TextMender z = with("ab");
        z.cost(97, 98, 200);
        due("25 two spans", z.parts(0), 2);
        dueText("25", z, "ab");
        z.cost(97, 32, 0);
        z.cost(32, 98, 0);
        z.cost(97, 98, 10);
        due("25 price 10: equal, so fewest", z.parts(10), 1);
        due("25 price 9", z.parts(9), 2);
    }

    private static void partsTies() {
        TextMender y = with("aaaa");
        y.cost(97, 97, 40);
        y.cost(97, 32, 1);
        y.cost(32, 97, 1);
        due("25 a price of 38 makes all equal, so the fewest", y.parts(38), 1);
        due("25 a price of 37", y.parts(37), 4);
        // as it is stands ahead of all, then the lower number: seen by what comes of them
        TextMender z = with("\u0080");
        z.span(4, 128, 1, 1024, 0);
        z.span(5, 128, 1, 1025, 0);
        z.list(5, 1);
        z.list(4, 1);
        due("25 cheaper", z.parts(0), 1);
        dueText("25 the lower number", z, "\u0401");
        z.back();
        z.cost(32, 128, 9);
        z.cost(128, 32, 9);
        due("25 equal", z.parts(0), 1);
        dueText("25 as it is", z, "\u0080");
        // equal cost and number of spans: the first one longest, though the other has the lower number
        TextMender v = with("\u00c3\u00a9\u00a9");
        v.span(4, 0xc3, 1, 0x410, 0);
        v.span(4, 0xa9, 1, 0x411, 0);
        v.list(4, 1);
        v.list(2, 1);
        v.cost(0x410, 0x411, 200);
        v.cost(32, 0xe9, 13);
        due("25 two spans", v.parts(0), 2);
        dueText("25 the first one longest", v, "\u00e9\u0411");
        v.back();
        v.cost(32, 0xe9, 14);
        due("25 two spans", v.parts(0), 2);
        dueText("25 least cost, and as it is ahead of all", v, "\u00c3\u0411\u0411");
        // equal cost, spans and lengths: the lower number
        TextMender w = with("\u00c3\u00a9\u00a9");
        w.list(2, 1);
        w.span(4, 0xc3, 1, 0x410, 0);
        w.span(4, 0xa9, 1, 0x411, 0);
        w.list(4, 1);
        w.cost(0x411, 0x411, 200);
        w.cost(32, 0xe9, 13);
        due("25 two spans", w.parts(0), 2);
        dueText("25 the lower number", w, "\u00e9\u0411");
    }

    private static void partsLimits() {
        TextMender x = with(same(60, 97));
        due("25 60", x.parts(0), 1);
        due("25 more than 60", with(same(61, 97)).parts(0), NONE);
        // & told as a number makes five letters of one; all the spans together have 300
        TextMender y = with(same(60, '&'));
        y.list(0, 3);
        y.cost('&', '&', 200);
        y.cost(32, '&', 200);
        y.cost('&', 32, 200);
        y.cost('&', '#', 0);
        y.cost(';', '&', 0);
        due("25 300 letters", y.parts(1000), 1);
        due("25 300 letters", y.count(0), 300);
        // one span may not come to more than 300; of shorter ones all together may not either
        TextMender z = with(same(51, 233));
        z.list(0, 3);
        for (int c : signs("&#23; ")) {
            for (int d : signs("&#23; ")) {
                z.cost(c, d, 0);
            }
        }
        due("25 more than 300 together", z.parts(0), NONE);
        due("25 where", z.where(), NONE);
        due("25 stays", z.count(0), 51);
        due("25 no change", z.count(3), 1);
    }

    private static void choices() {
        TextMender x = with("caf\ufffd");
        // only the bytes from 128 on are none by themselves in PLAIN, and WIDE has them all
        due("26 choices(1, 0)", x.choices(1, 0), 128);
        due("27 the cheapest is 192", x.choice(0, 0), 192);
        due("27 no second", x.choice(0, 1), NONE);
        due("27 cost", x.choice(0, 2), 35);
        due("27 letters", x.choice(0, 3), 4);
        due("27 215 is dear", x.choice(23, 0), 216);
        due("27 the dear ones", x.choice(62, 0), 128);
        due("27 the last", x.choice(127, 0), 247);
        due("27 none such", x.choice(128, 0), NONE);
        due("27 none such", x.choice(-1, 0), NONE);
        due("27 another what", x.choice(0, 4), NONE);
        due("27 another what", x.choice(0, -1), NONE);
        due("26 WIDE has all bytes", x.choices(2, 1), 0);
        due("27 none", x.choice(0, 0), NONE);
        due("26 none read alone in MANY", x.choices(2, 0), 0);
        due("26 no change", x.count(3), 1);
        // two bytes of one letter
        TextMender y = with("caf\ufffd\ufffd");
        due("26 choices(2, 0)", y.choices(2, 0), 30 * 64);
        due("27 first byte", y.choice(0, 0), 195);
        due("27 second byte", y.choice(0, 1), 128);
        due("27 letters", y.choice(0, 3), 4);
        due("27 200 are told", y.choice(199, 3), 4);
        due("27 the 201st is not", y.choice(200, 0), NONE);
        // bytes that become a letter with what stands behind do not come back as marks
        TextMender z = with("\ufffd#38;\ufffd#39;");
        due("26 & begins no letter at the first, but at the second", z.choices(1, 3), 128 * 129);
        TextMender w = with("\ufffd\ufffd");
        due("26 two of MANY", w.choices(1, 2), 128 * 128 - 30 * 64);
        TextMender v = with("\ufffda\ufffd");
        due("26 parted", v.choices(1, 2), 128 * 128);
        TextMender u = with("\ufffd\u00e9");
        // a MARK within a letter that a tells by more bytes
        TextMender t = with("&#233\ufffda&#23\ufffd;");
        t.span(4, 32, 27, 32, 1);
        t.span(4, 60, 60, 60, 1);
        t.span(4, 59, 1, 1000, 0);
        due("26 code 4 has no ;", t.choices(3, 4), NONE);
        due("26 where", t.where(), 12);
        put(t, signs("&#233\ufffda&#23\ufffdb"));
        t.text();
        t.blank(4);
        t.span(4, 32, 27, 32, 1);
        t.span(4, 60, 60, 60, 1);
        due("26 both are ;", t.choices(3, 4), 0);
        put(t, signs("&#233\ufffda&#234\ufffdb"));
        t.text();
        due("26 both are ;", t.choices(3, 4), 1);
        due("27 ;", t.choice(0, 0), ';');
        due("27 ;", t.choice(0, 1), ';');
        due("27 letters", t.choice(0, 3), 4);
        due("28 chosen", t.chosen(0), true);
        dueText("28", t, "\u00e9a\u00eab");
        put(t, signs("&#233\ufffda&#234\ufffdb"));
        t.text();
        t.blank(4);
        t.span(4, 0, 33, 0, 1);
        t.span(4, 34, 25, 34, 1);
        t.span(4, 60, 196, 60, 1);
        due("26 of ! and ; only ; is good", t.choices(3, 4), 1);
        due("26 written in b", u.choices(1, 2), 128);
        due("27 letters", u.choice(0, 3), 3);
    }

    private static void choicesOrder() {
        TextMender x = with("\ufffd\ufffd");
        x.cost(255, 254, 0);
        x.cost(254, 255, 0);
        due("26 choices", x.choices(1, 0), 128 * 128);
        due("27 first", x.choice(0, 0), 254);
        due("27 first", x.choice(0, 1), 255);
        due("27 second", x.choice(1, 0), 255);
        due("27 second", x.choice(1, 1), 254);
        due("27 then by bytes", x.choice(2, 0), 192);
        due("27 then by bytes", x.choice(2, 1), 192);
        due("27 then by bytes", x.choice(3, 0), 192);
        due("27 then by bytes", x.choice(3, 1), 193);
        due("27 cost", x.choice(0, 2), 18);
        due("27 cost", x.choice(2, 2), 22);
        due("27 last told", x.choice(199, 0), 195);
        x.cost(200, 200, 1);
        due("27 stays as it was", x.choice(0, 2), 18);
        due("26 told code without bytes", x.choices(1, 4), 65536);
        due("27 two blanks", x.choice(0, 0), 32);
        due("27 two blanks", x.choice(0, 2), 12);
        due("27 its second", x.choice(1, 0), 254);
        due("27 its third", x.choice(2, 0), 255);
        due("27 its fourth", x.choice(3, 0), 200);
        due("27 its fifth", x.choice(4, 0), 32);
        due("27 its fifth", x.choice(4, 1), 33);
    }

    private static void dueRefused(TextMender x, int a, int b, int fault) {
        x.size(2);
        due("26 choices(" + a + ", " + b + ") refused", x.choices(a, b), NONE);
        due("26 where", x.where(), fault);
    }

    private static void choicesRefused() {
        dueRefused(with("abc"), 1, 0, NONE);
        dueRefused(with("\ufffd\ufffd\ufffd"), 1, 0, NONE);
        dueRefused(new TextMender(), 1, 0, NONE);
        TextMender x = with("a\ufffd\u00e9b\u00e9");
        dueRefused(x, 1, 0, 2);
        dueRefused(x, 6, 1, NONE);
        dueRefused(x, 1, 6, NONE);
        dueRefused(x, -1, 1, NONE);
        dueRefused(x, 0, 4, 0);
        int[] many = same(101, 97);
        many[50] = MARK;
        dueRefused(with(many), 1, 0, NONE);
        due("26 100 letters", with(java.util.Arrays.copyOf(many, 51)).choices(1, 0), 128);
        int[] hundred = same(100, 97);
        hundred[99] = MARK;
        due("26 100 letters", with(hundred).choices(1, 0), 128);
        // what comes has at most 300 letters: 100 letters of three bytes, read as one letter each byte
        int[] wide = same(100, 0x20ac);
        wide[0] = MARK;
        due("26 298 letters", with(wide).choices(1, 2), 128);
        int[] numbers = same(60, 233);
        numbers[0] = MARK;
        due("26 more than 300 letters", with(numbers).choices(1, 3), 0);
        due("26 295 letters", with(java.util.Arrays.copyOf(numbers, 50)).choices(1, 3), 129);
        numbers = java.util.Arrays.copyOf(numbers, 56);
        java.util.Arrays.fill(numbers, 50, 56, 97);
        due("26 300 letters", with(java.util.Arrays.copyOf(numbers, 55)).choices(1, 3), 129);
        due("26 301 letters", with(numbers).choices(1, 3), 0);
        // 100 letters of eight bytes but one
        int[] longest = same(100, 65535);
        longest[99] = MARK;
        due("26 the longest", with(longest).choices(3, 3), 0);
        // refused: the choices of before are still told, and can be chosen
        TextMender y = with("a\ufffd");
        y.choices(1, 0);
        y.choices(7, 0);
        due("27 still told", y.choice(0, 0), 192);
        due("28 still to be chosen", y.chosen(0), true);
    }

    private static void dueStale(String why, TextMender x) {
        due("28 stale by " + why, x.chosen(0), false);
        due("27 told all the same", x.choice(0, 0), 192);
    }

    private static TextMender fresh() {
        TextMender x = with("caf\ufffd");
        x.list(1, 1);
        x.span(4, 0, 1, 0, 0);
        x.choices(1, 0);
        return x;
    }

    private static void chosen() {
        TextMender x = fresh();
        due("28 none such", x.chosen(-1), false);
        due("28 none such", x.chosen(128), false);
        due("28 chosen", x.chosen(40), true);
        dueText("28", x, "caf" + (char) 233);
        due("28 a change", x.count(3), 2);
        dueStale("chosen()", x);
        x.back();
        dueStale("back()", x);
        for (int k = 0; k < 10; k++) {
            x = fresh();
            switch (k) {
                case 9: x.back(); break;
                case 0: x.text(); break;
                case 1: x.harm(2, 2); break;
                case 2: x.rough(2, 2); break;
                case 3: x.list(0, 0); break;
                case 4: x.unlist(); break;
                case 5: x.cost(1, 1, 1); break;
                case 6: x.span(5, 0, 1, 0, 0); break;
                case 7: x.blank(4); break;
                default: x.parts(0); break;
            }
            dueStale("call " + k, x);
        }
        x = fresh();
        x.feed(1, 2, 3, 70000, 5);
        x.end(4);
        x.text();
        x.read(9);
        x.harm(0, 0);
        x.rough(0, 0);
        x.undo(9, 0);
        x.mend(3, 1);
        x.rows(3);
        x.parts(2000);
        x.list(9, 9);
        x.cost(1, 1, 201);
        x.span(3, 0, 0, 0, 0);
        x.blank(3);
        x.size(2);
        x.worth();
        due("28 what is refused or tells only changes nothing", x.chosen(0), true);
        dueText("28", x, "caf\u00c0");
        TextMender y = with("a\ufffd\ufffdb\u00e9");
        y.choices(1, 2);
        due("28 of two", y.choice(0, 0), 192);
        due("28 of two", y.chosen(0), true);
        dueText("28 of two", y, "a\u00c0\u00c0b\u00c3\u00a9");
        TextMender z = with("a\ufffd");
        z.choices(1, 0);
        put(z, 97, MARK);
        z.text();
        due("28 told anew", z.chosen(0), false);
    }
}
