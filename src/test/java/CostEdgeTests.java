/** Each sentence of the promises 22 to 28 (costs, marks) that names an edge: a test of its own. */
public final class CostEdgeTests extends Due {
    public static void main(String[] args) {
        costValues();
        costOfTheseAlone();
        costOthers();
        costFull();
        worthEdges();
        mendLeast();
        mendFirstOfEqual();
        mendGain();
        mendNumber();
        mendRowStays();
        mendElseNone();
        mendAnotherN();
        mendAnotherGain();
        partsSpansOfOne();
        partsStayOrUndone();
        partsUndoneTo300();
        partsByThemselves();
        partsPrice();
        partsFirstFree();
        partsFewest();
        partsFewestAheadOfLongest();
        partsFirstLongest();
        partsLowerNumber();
        partsAsItIsAhead();
        partsLikewiseOn();
        partsNoLetters();
        partsOver60();
        partsAnotherPrice();
        partsOver300();
        choicesMarks();
        choicesEachAByte();
        choicesOfOneLetter();
        choicesOfTwoLetters();
        choicesReadInA();
        choicesFaultInA();
        choicesTo300();
        choicesComeAgain();
        choicesByThemselves();
        choicesHowMany();
        choicesOrder();
        choicesCostOfAll();
        choicesNumberOfMarks();
        choicesNoCodes();
        choicesOver100();
        choicesMissingLetter();
        choiceLatest();
        choiceTold200();
        choiceBytes();
        choiceNoneSuch();
        choiceAnotherWhat();
        chosenIs();
        chosenNoneSuch();
        chosenAfterChange();
        chosenToldAnew();
        chosenAfterRefused();
        tellAndEnd();
    }

    // ---- 22, 23

    private static void costValues() {
        says("22", "The cost of two neighbours is told (0 .. 200): true");
        TextMender x = with("ab");
        due("0", x.cost(97, 98, 0), true);
        due("0", x.worth(), 18);
        due("200", x.cost(97, 98, 200), true);
        due("200", x.worth(), 218);
        due("one", x.count(5), 1);
        due("the first letters", x.cost(0, 0, 1), true);
        due("the last letters", x.cost(65535, 65535, 2), true);
        put(x, 0, 0, 65535, 65535);
        x.text();
        due("the edges", x.worth(), 39 + 1 + 64 + 2 + 39);
    }

    private static void costOfTheseAlone() {
        says("22", "The cost of two neighbours is told");
        TextMender x = with(97, 98, 97 + 32768, 98, 97, 98 + 32768, 98);
        x.cost(97, 98, 0);
        due("no letters that are like them in some bits", x.worth(), 9 + 0 + 39 + 39 + 4 + 39 + 39 + 9);
        put(x, 0, 32768, 1, 0, 2, 0);
        x.text();
        int before = x.worth();
        x.cost(0, 32768, 0);
        due("nor these", x.worth(), before - 64);
    }

    private static void costOthers() {
        says("22", "false for others");
        TextMender x = with("ab");
        for (int v : new int[] {-1, 201, Integer.MIN_VALUE, Integer.MAX_VALUE}) {
            due("of " + v, x.cost(97, 98, v), false);
        }
        for (int bad : new int[] {-1, 65536, 55296, 57343, Integer.MIN_VALUE, Integer.MAX_VALUE}) {
            due("ahead of " + bad, x.cost(97, bad, 1), false);
            due("behind " + bad, x.cost(bad, 98, 1), false);
        }
        // numbers that are 97 and 98 in their lower bits
        due("beyond", x.cost(97 + 65536, 98, 1), false);
        due("beyond", x.cost(97, 98 + 65536, 1), false);
        due("none", x.count(5), 0);
        due("as before", x.worth(), 22);
    }

    private static void costFull() {
        says("22", "or if 300 are and these not");
        TextMender x = with("ab");
        x.cost(97, 98, 100);
        for (int i = 1; i < 300; i++) {
            due("told", x.cost(1000 + i, i, 7), true);
        }
        due("300", x.count(5), 300);
        due("one more", x.cost(98, 97, 1), false);
        due("one more", x.cost(32, 97, 1), false);
        due("300", x.count(5), 300);
        due("as before", x.worth(), 118);
        due("these are", x.cost(97, 98, 3), true);
        due("these are", x.worth(), 21);
        due("these are", x.cost(1299, 299, 8), true);
        due("these are, but not for this", x.cost(97, 98, 201), false);
        put(x, 1299, 299, 1001, 1);
        x.text();
        due("all are told", x.worth(), 9 + 8 + 9 + 7 + 39);
    }

    private static void worthEdges() {
        says("23", "COST of THE TEXT");
        due("of none", new TextMender().worth(), 4);
        due("of one", with("a").worth(), 18);
        TextMender x = with(same(300, 97));
        x.cost(97, 97, 200);
        x.cost(32, 97, 200);
        x.cost(97, 32, 200);
        due("the most", x.worth(), 301 * 200);
        due("no change", x.count(3), 1);
    }

    // ---- 24

    private static void mendLeast() {
        says("24", "the one by which COST is least");
        TextMender x = with("\u00e9");
        x.harm(2, 1);
        x.harm(2, 1);
        x.harm(2, 1);
        x.list(2, 1);
        due("of at most 1", x.mend(1, 1), 0);
        due("letters", x.count(0), 4);
        x.back();
        due("of at most 2", x.mend(2, 1), 1);
        due("letters", x.count(0), 2);
        x.back();
        due("of at most 3", x.mend(3, 1), 2);
        dueText("of at most 3", x, "\u00e9");
        x.back();
        x.cost(32, 233, 200);
        due("the least is not the last", x.mend(3, 1), 1);
    }

    private static void mendFirstOfEqual() {
        says("24", "(of equal ones the first)");
        TextMender x = with("\u0080");
        x.span(4, 128, 1, 1000, 0);
        x.span(5, 128, 1, 1001, 0);
        x.list(5, 1);
        x.list(4, 1);
        due("equal", x.mend(3, 1), 0);
        dueText("the first", x, 1001);
        x.back();
        x.cost(32, 1000, 8);
        due("less", x.mend(3, 1), 1);
        dueText("the second", x, 1000);
    }

    private static void mendGain() {
        says("24", "if it is less than THE TEXT's by gain (1 .. 100000) or more");
        TextMender x = with("\u00c3\u00a9");
        x.list(2, 1);
        int less = x.worth() - 18;
        due("one more than it is less", x.mend(1, less + 1), NONE);
        dueText("nothing", x, "\u00c3\u00a9");
        due("just so much", x.mend(1, less), 0);
        dueText("mended", x, "\u00e9");
        x.back();
        due("less by more", x.mend(1, less - 1), 0);
        x.back();
        due("by 1", x.mend(1, 1), 0);
        x.back();
        due("100000", x.mend(1, 100000), NONE);
        x.cost(32, 233, x.worth() - 9 - 1);
        due("less by just 1", x.mend(1, 1), 0);
        x.back();
        x.cost(32, 233, x.worth() - 9);
        due("equal", x.mend(1, 1), NONE);
    }

    private static void mendNumber() {
        says("24", "its number as of rows(n)");
        // rows that do not make the text have no number: of three harms the last, then the two ahead of it
        TextMender x = with("&#233;");
        x.list(2, 1);
        x.list(1, 4);
        x.list(3, 0);
        due("rows(1)", x.rows(1), 2);
        due("mend(1, 1)", x.mend(1, 1), 1);
        x.back();
        due("mend(3, 1)", x.mend(3, 1), 1);
        TextMender y = with("\u00e9");
        y.harm(3, 0);
        y.harm(3, 0);
        y.list(2, 1);
        y.list(3, 0);
        int n = y.rows(2);
        due("the row", y.row(n - 1, 4), 18);
        due("its number", y.mend(2, 1), n - 1);
    }

    private static void mendRowStays() {
        says("24", "(what row() tells stays)");
        TextMender x = with("\u00e9");
        x.harm(2, 1);
        x.harm(2, 1);
        x.list(2, 1);
        due("rows(1)", x.rows(1), 1);
        int cost = x.row(0, 4);
        due("mend(2, 1)", x.mend(2, 1), 1);
        due("row(0, 4)", x.row(0, 4), cost);
        due("row(0, 5)", x.row(0, 5), 2);
        due("row(1, 0)", x.row(1, 0), NONE);
        TextMender y = with("\u00c3\u00a9");
        y.list(2, 1);
        due("without rows()", y.mend(1, 1), 0);
        due("without rows()", y.row(0, 0), NONE);
    }

    private static void mendElseNone() {
        says("24", "else NONE (nothing changes)");
        TextMender x = with("\u00c3\u00a9");
        x.size(0);
        due("no list", x.mend(3, 1), NONE);
        due("where()", x.where(), NONE);
        x.list(0, 1);
        due("no rows", x.mend(3, 1), NONE);
        x.list(1, 1);
        due("equal cost", x.mend(3, 1), NONE);
        x.list(1, 2);
        due("more cost", x.mend(3, 1), NONE);
        dueText("nothing", x, "\u00c3\u00a9");
        due("no change", x.count(3), 1);
        due("of no letters", new TextMender().mend(1, 1), NONE);
    }

    private static void mendAnotherN() {
        says("24", "Refused: another n, gain");
        for (int n : new int[] {0, 4, -1, Integer.MIN_VALUE, Integer.MAX_VALUE}) {
            TextMender x = with("\u00c3\u00a9");
            x.list(2, 1);
            x.size(0);
            due("mend(" + n + ", 1)", x.mend(n, 1), NONE);
            due("where()", x.where(), NONE);
            dueText("nothing", x, "\u00c3\u00a9");
        }
    }

    private static void mendAnotherGain() {
        says("24", "Refused: another n, gain");
        for (int gain : new int[] {0, -1, 100001, Integer.MIN_VALUE, Integer.MAX_VALUE}) {
            TextMender x = with("\u00c3\u00a9");
            x.list(2, 1);
            x.size(0);
            due("mend(1, " + gain + ")", x.mend(1, gain), NONE);
            due("where()", x.where(), NONE);
            dueText("nothing", x, "\u00c3\u00a9");
            due("no change", x.count(3), 1);
        }
    }

    // ---- 25

    private static void partsSpansOfOne() {
        says("25", "THE TEXT is parted in spans of at least one LETTER");
        TextMender x = with("a");
        due("one letter", x.parts(0), 1);
        dueText("one letter", x, "a");
        TextMender y = with("aaa");
        y.cost(97, 97, 200);
        due("each by itself", y.parts(0), 3);
        y.cost(32, 97, 0);
        y.cost(97, 32, 0);
        y.cost(32, 32, 0);
        due("none without a letter", y.parts(0), 3);
        TextMender z = with(same(60, 97));
        z.cost(97, 97, 200);
        due("sixty by themselves", z.parts(0), 60);
        due("sixty by themselves", z.count(0), 60);
    }

    private static void partsStayOrUndone() {
        says("25", "each stays as it is, or one HARM of THE LIST is UNDONE to it (that CAN be so)");
        TextMender x = with("\u00c3\u00a9\u0100\u00c3\u00a9");
        due("no list", x.parts(0), 1);
        dueText("no list", x, "\u00c3\u00a9\u0100\u00c3\u00a9");
        x.list(2, 1);
        due("undone, stays, undone", x.parts(0), 3);
        dueText("undone, stays, undone", x, "\u00e9\u0100\u00e9");
        // one harm for each span, not two one behind the other
        TextMender y = with("\u00c3\u0083\u00c2\u00a9");
        y.list(2, 1);
        y.cost(32, 195, 0);
        y.cost(195, 169, 0);
        y.cost(169, 32, 0);
        due("undone once", y.parts(1000), 1);
        dueText("undone once", y, "\u00c3\u00a9");
    }

    private static int[] ampersands(int n) {
        return same(n, '&');
    }

    /** What (0, 3) undone makes of & and of 233 costs nothing at all, what stays as it is does. */
    private static TextMender cheapByNumbers(int... letters) {
        TextMender x = with(letters);
        x.list(0, 3);
        String[] pairs = {" &", "&#", "#3", "38", "8;", "; ", ";&", "#2", "23", "33", "3;"};
        for (String pair : pairs) {
            x.cost(pair.charAt(0), pair.charAt(1), 0);
        }
        x.cost('&', '&', 200);
        x.cost('&', ' ', 200);
        return x;
    }

    private static void partsUndoneTo300() {
        says("25", "(that CAN be so)");
        TextMender x = cheapByNumbers(ampersands(60));
        due("300 letters in one span", x.parts(1000), 1);
        due("300 letters in one span", x.count(0), 300);
        // 301 letters: one span of all can not be undone, and the price for more is too high
        TextMender y = cheapByNumbers(joined(ampersands(59), 233));
        y.cost('&', '&', 0);
        y.cost('&', 233, 0);
        y.cost(233, ' ', 5);
        due("301 letters", y.parts(1000), 1);
        due("it stays as it is", y.count(0), 60);
    }

    private static void partsByThemselves() {
        says("25", "that of each span (by itself)");
        // the blanks on both sides cost what they cost, however dear
        TextMender x = with("a");
        x.cost(32, 97, 200);
        x.cost(97, 32, 200);
        due("one letter", x.parts(0), 1);
        dueText("one letter", x, "a");
        TextMender y = with("ab");
        y.cost(98, 32, 200);
        due("9 + 4 + 200, or 18 and 209", y.parts(0), 1);
        dueText("one span", y, "ab");
        y.cost(97, 32, 0);
        y.cost(32, 98, 0);
        due("9 + 4 + 200, or 9 and 200", y.parts(3), 2);
        due("9 + 4 + 200, or 9 and 200, and the price", y.parts(4), 1);
        dueText("the text is the same", y, "ab");
    }

    private static void partsPrice() {
        says("25", "and price (0 .. 1000) for each but the first");
        // two spans cost 64 less than one
        TextMender x = with("n\u00c3\u00a9 n\u00e9");
        x.list(2, 1);
        due("price 64", x.parts(64), 2);
        x.back();
        due("price 65", x.parts(65), 1);
        due("price 0", x.parts(0), 2);
        x.back();
        due("price 1000", x.parts(1000), 1);
        // three spans, so twice the price
        TextMender y = with("aaa");
        y.cost(97, 97, 30);
        due("30 each or 18 and 12", y.parts(12), 1);
        due("30 each or 18 and 11", y.parts(11), 3);
    }

    private static void partsFirstFree() {
        says("25", "for each but the first");
        TextMender x = with("ab");
        x.cost(97, 98, 200);
        x.cost(97, 32, 0);
        x.cost(32, 98, 0);
        due("200 in one", x.parts(201), 1);
        due("equal", x.parts(200), 1);
        due("199 for the second", x.parts(199), 2);
    }

    private static void partsFewest() {
        says("25", "of equal ones the fewest spans");
        TextMender x = with("aaaa");
        x.cost(97, 97, 18);
        due("all partings are equal", x.parts(0), 1);
        x.cost(97, 97, 19);
        due("four cost less", x.parts(0), 4);
    }

    private static void partsFewestAheadOfLongest() {
        says("25", "of equal ones the fewest spans, then the first one longest");
        // 1 as it is and 2 3 4 by code 5, or 1 2 by code 4 and 3 and 4 as they are: 10 each, all else costs more
        TextMender x = with(1, 2, 3, 4);
        x.span(4, 1, 4, 1001, 1);
        x.span(5, 1, 4, 1011, 1);
        x.list(4, 1);
        x.list(5, 1);
        for (int letter : new int[] {1, 3, 4}) {
            x.cost(32, letter, 0);
            x.cost(letter, 32, 0);
        }
        int[][] told = {{1, 2, 200}, {2, 3, 200}, {3, 4, 200}, {32, 1001, 0}, {1001, 1002, 1}, {1002, 1003, 200},
            {1011, 1012, 200}, {1012, 1013, 0}, {1013, 1014, 0}, {1014, 32, 1}};
        for (int[] t : told) {
            x.cost(t[0], t[1], t[2]);
        }
        due("two spans", x.parts(0), 2);
        dueText("two spans", x, 1, 1012, 1013, 1014);
        x.back();
        x.cost(1014, 32, 2);
        due("three cost less", x.parts(0), 3);
        dueText("three cost less", x, 1001, 1002, 3, 4);
    }

    /** Two harms: code 4 reads bytes 1, 2 as 1001, 1002 and code 5 as 1011, 1012; both letters of WIDE are dear. */
    private static TextMender withTwoCodes(int... letters) {
        TextMender x = with(letters);
        x.span(4, 1, 2, 1001, 1);
        x.span(5, 1, 2, 1011, 1);
        x.list(4, 1);
        x.list(5, 1);
        return x;
    }

    private static void partsFirstLongest() {
        says("25", "then the first one longest");
        // by 5 then 4, or by 4 then 5: the neighbours 1001, 1002 and 1011, 1012 are dear, all else is equal
        TextMender x = withTwoCodes(1, 2, 2);
        x.cost(1001, 1002, 200);
        x.cost(1012, 1012, 200);
        due("two spans", x.parts(0), 2);
        // first of one: 1001 | 1002 1002; first of two: 1011 1012 | 1002
        dueText("the first one longest", x, 1011, 1012, 1002);
    }

    private static void partsLowerNumber() {
        says("25", "then the lower number of its HARM");
        TextMender x = withTwoCodes(1);
        due("one span", x.parts(0), 1);
        dueText("the lower number", x, 1001);
        x.back();
        x.cost(32, 1011, 8);
        due("one span", x.parts(0), 1);
        dueText("the least cost ahead of the lower number", x, 1011);
    }

    private static void partsAsItIsAhead() {
        says("25", "(as it is ahead of all)");
        TextMender x = withTwoCodes(1);
        x.cost(32, 1, 9);
        x.cost(1, 32, 9);
        due("one span", x.parts(0), 1);
        dueText("as it is", x, 1);
        x.cost(1, 32, 10);
        due("one span", x.parts(0), 1);
        dueText("undone", x, 1001);
    }

    private static void partsLikewiseOn() {
        says("25", "then likewise on");
        // the second span: as it is costs the same as undone by either
        TextMender x = withTwoCodes(97, 1);
        x.cost(97, 1, 200);
        x.cost(32, 1, 9);
        x.cost(1, 32, 9);
        due("two spans", x.parts(0), 2);
        dueText("the second as it is", x, 97, 1);
        x.cost(1, 32, 10);
        due("two spans", x.parts(0), 2);
        dueText("the second by the lower number", x, 97, 1001);
        // of the spans behind the first, too, the first one longest
        TextMender y = withTwoCodes(97, 1, 2, 2);
        y.cost(1001, 1002, 200);
        y.cost(1012, 1012, 200);
        due("three spans", y.parts(0), 3);
        dueText("the second one longest", y, 97, 1011, 1012, 1002);
    }

    private static void partsNoLetters() {
        says("25", "Refused: no LETTERS");
        TextMender x = new TextMender();
        x.list(0, 0);
        due("parts(0)", x.parts(0), NONE);
        due("where()", x.where(), NONE);
        due("no change", x.count(3), 0);
    }

    private static void partsOver60() {
        says("25", "more than 60");
        TextMender x = with(same(60, 97));
        due("60", x.parts(0), 1);
        due("60", x.count(3), 2);
        for (int n : new int[] {61, 300}) {
            TextMender y = with(same(n, 97));
            y.size(4);
            due(n + "", y.parts(0), NONE);
            due("where()", y.where(), NONE);
            due("no change", y.count(3), 1);
        }
    }

    private static void partsAnotherPrice() {
        says("25", "another price");
        for (int price : new int[] {-1, 1001, Integer.MIN_VALUE, Integer.MAX_VALUE}) {
            TextMender x = with("a");
            x.size(4);
            due("parts(" + price + ")", x.parts(price), NONE);
            due("where()", x.where(), NONE);
            due("no change", x.count(3), 1);
        }
        due("0", with("a").parts(0), 1);
        due("1000", with("a").parts(1000), 1);
    }

    private static void partsOver300() {
        says("25", "all spans have more than 300 LETTERS together");
        TextMender x = cheapByNumbers(ampersands(60));
        x.cost(';', '&', 1);
        due("300 in sixty spans", x.parts(0), 60);
        due("300 in sixty spans", x.count(0), 300);
        TextMender y = cheapByNumbers(joined(ampersands(59), 233));
        y.size(0);
        due("301 in two spans", y.parts(0), NONE);
        due("where()", y.where(), NONE);
        due("stays", y.count(0), 60);
        due("no change", y.count(3), 1);
    }

    // ---- 26

    private static void choicesMarks() {
        says("26", "THE TEXT has 1 or 2 MARKS");
        due("1", with(MARK).choices(1, 0), 128);
        due("2", with(MARK, MARK).choices(1, 0), 128 * 128);
        due("2 apart", with(MARK, 97, MARK).choices(1, 0), 128 * 128);
        due("at the end", with(97, 98, MARK).choices(1, 0), 128);
    }

    private static void choicesEachAByte() {
        says("26", "for each MARK a byte; THE TEXT is WRITTEN in b, but these bytes in the place of its MARKS");
        // MANY itself has the MARK, of three bytes; here it is one byte all the same
        TextMender x = with(MARK, 233);
        due("choices(1, 2)", x.choices(1, 2), 128);
        due("one byte and two", x.choice(0, 3), 3);
        // a told code that has the MARK: its byte is a LETTER by itself
        TextMender y = with(MARK);
        y.span(4, 5, 1, MARK, 0);
        due("choices(1, 4)", y.choices(1, 4), 255);
    }

    /** Both bytes tell one LETTER of MANY: 195 or 196 with any of 128 .. 191. */
    private static void choicesOfOneLetter() {
        says("26", "for each MARK a byte");
        TextMender x = with(97, MARK, MARK, 98);
        x.span(4, 0, 128, 0, 1);
        x.span(4, 192, 3, 1000, 1);
        x.span(4, 197, 59, 2000, 1);
        x.cost(97, 257, 0);
        x.cost(97, 255, 1);
        due("two times 64", x.choices(2, 4), 128);
        dueChoice(x, 0, 196, 129, 9 + 0 + 9 + 9, 3);
        dueChoice(x, 1, 195, 191, 9 + 1 + 9 + 9, 3);
        dueChoice(x, 2, 195, 128, 9 + 9 + 9 + 9, 3);
        dueChoice(x, 127, 195, 183, 9 + 39 + 39 + 9, 3);
    }

    /** Each byte ends a LETTER of MANY that one ahead of it, which b has, began: what was tried before leaves nothing. */
    private static void choicesOfTwoLetters() {
        says("26", "for each MARK a byte");
        TextMender x = with(1003, MARK, 1004, MARK);
        x.span(4, 0, 128, 0, 1);
        x.span(4, 192, 64, 1000, 1);
        x.cost(200, 257, 0);
        x.cost(255, 318, 1);
        due("64 times 64", x.choices(2, 4), 64 * 64);
        dueChoice(x, 0, 136, 129, 9 + 0 + 9, 2);
        dueChoice(x, 1, 191, 190, 9 + 1 + 9, 2);
        dueChoice(x, 2, 128, 128, 9 + 4 + 9, 2);
        due("chosen", x.chosen(1), true);
        dueText("chosen", x, 255, 318);
    }

    private static void choicesReadInA() {
        says("26", "what comes of that READ in a (without a FAULT, at most 300 LETTERS)");
        due("no byte above 127 is one in PLAIN", with(MARK).choices(0, 2), 0);
        due("nor alone in MANY", with(MARK).choices(2, 0), 0);
        due("but two are", with(MARK, MARK).choices(2, 0), 30 * 64);
        due("cut at the end", with(MARK, 97, MARK).choices(2, 0), 0);
        TextMender x = with(MARK);
        x.span(4, 200, 1, 1000, 0);
        due("one alone in a told code", x.choices(4, 0), 1);
        due("its byte", x.choice(0, 0), 200);
    }

    /** Code 4 reads what is below 128 and two bytes more, but not the two of 233. */
    private static void dueInFour(int want, int... letters) {
        TextMender x = with(letters);
        x.span(4, 0, 128, 0, 1);
        x.span(4, 200, 2, 2000, 1);
        due("choices(4, 2) of " + java.util.Arrays.toString(letters), x.choices(4, 2), want);
    }

    private static void choicesFaultInA() {
        says("26", "what comes of that READ in a (without a FAULT");
        int[] some = same(20, 97);
        int[] marked = joined(some, joined(new int[] {MARK}, some));
        dueInFour(2, marked);
        for (int place : new int[] {0, 1, 19, 21, 22, 23, 40}) {
            int[] faulty = marked.clone();
            faulty[place] = 233;
            dueInFour(0, faulty);
        }
        int[] twice = marked.clone();
        twice[3] = MARK;
        dueInFour(4, twice);
        for (int place : new int[] {0, 2, 4, 10, 19, 21, 22, 40}) {
            int[] faulty = twice.clone();
            faulty[place] = 233;
            dueInFour(0, faulty);
        }
    }

    private static void choicesTo300() {
        says("26", "at most 300 LETTERS");
        int[] just = joined(same(49, 233), 97, 97, 97, 97, 97, MARK);
        due("300", with(just).choices(1, 3), 129);
        due("301", with(joined(just, 97)).choices(1, 3), 0);
        TextMender x = with(just);
        x.choices(1, 3);
        due("300", x.choice(0, 3), 300);
        due("300 chosen", x.chosen(0), true);
        due("300 chosen", x.count(0), 300);
    }

    private static void choicesComeAgain() {
        says("26", "done ROUGHLY (a, b), is THE TEXT");
        // two bytes that are a LETTER together in MANY come back as that one, not as MARKS
        due("all pairs but those", with(MARK, MARK).choices(1, 2), 128 * 128 - 30 * 64);
        due("apart they are none", with(MARK, 97, MARK).choices(1, 2), 128 * 128);
        due("& begins a LETTER", with(MARK, '#', '3', '8', ';').choices(1, 3), 128);
        due("& begins none", with(MARK, '#', '3', '9', ';').choices(1, 3), 129);
        due("& begins a LETTER that is a MARK", with(joined(new int[] {MARK}, signs("#65533;"))).choices(1, 3), 128);
    }

    private static void choicesByThemselves() {
        says("26", "(Only bytes that by themselves are no LETTER in b are taken.)");
        due("in WIDE all are", with(MARK).choices(1, 1), 0);
        TextMender x = with(MARK);
        due("in PLAIN those below 128", x.choices(1, 0), 128);
        due("in NUMBERED all of these but &", x.choices(1, 3), 129);
        due("in MANY those below 128", x.choices(1, 2), 128);
        due("in a told code without bytes none", x.choices(1, 4), 256);
        x.span(4, 0, 256, 0, 1);
        due("in a told code of all bytes all", x.choices(1, 4), 0);
        x.span(5, 0, 255, 0, 1);
        due("but one", x.choices(1, 5), 1);
        due("the last", x.choice(0, 0), 255);
        x.blank(5);
        x.span(5, 1, 255, 0, 1);
        due("but one", x.choices(1, 5), 1);
        due("the first", x.choice(0, 0), 0);
    }

    private static void choicesHowMany() {
        says("26", "How many CHOICES there are");
        due("none", with(MARK).choices(1, 1), 0);
        due("the most", with(MARK, MARK).choices(1, 4), 256 * 256);
        TextMender x = with(same(99, 97));
        put(x, joined(same(98, 97), MARK, MARK));
        x.text();
        due("of 100 letters", x.choices(1, 0), 128 * 128);
    }

    private static void dueChoice(TextMender x, int i, int... want) {
        for (int what = 0; what < 4; what++) {
            due("choice(" + i + ", " + what + ")", x.choice(i, what), want[what]);
        }
    }

    private static void choicesOrder() {
        says("26", "they stand in order by the COST of what comes, then by the first MARK's byte, then the second one's");
        TextMender x = with(MARK, MARK);
        x.cost(255, 128, 0);
        x.cost(255, 32, 0);
        x.cost(128, 32, 0);
        x.cost(32, 255, 0);
        due("choices(1, 0)", x.choices(1, 0), 128 * 128);
        dueChoice(x, 0, 255, 128, 0, 2);
        dueChoice(x, 1, 255, 255, 4, 2);
        dueChoice(x, 2, 192, 255, 9 + 4, 2);
        dueChoice(x, 3, 193, 255, 9 + 4, 2);
        TextMender y = with(MARK, MARK);
        y.choices(1, 0);
        dueChoice(y, 0, 192, 192, 22, 2);
        dueChoice(y, 1, 192, 193, 22, 2);
        dueChoice(y, 61, 192, 255, 22, 2);
        dueChoice(y, 62, 193, 192, 22, 2);
    }

    private static void choicesCostOfAll() {
        says("26", "by the COST of what comes");
        TextMender x = with("cAfe\ufffd xY9");
        x.choices(1, 0);
        int cost = x.choice(0, 2);
        due("as many letters", x.choice(0, 3), 9);
        due("chosen", x.chosen(0), true);
        due("the cost of all", x.worth(), cost);
        // & is a LETTER with what stands behind, and is the only one that makes one LETTER: it costs least
        TextMender y = with("\ufffd#38;ab");
        y.span(4, 35, 1, 35, 0);
        y.span(4, 51, 1, 51, 0);
        y.span(4, 56, 1, 56, 0);
        y.span(4, 59, 1, 59, 0);
        y.span(4, 97, 2, 97, 1);
        due("all below 128 but those", y.choices(3, 4), 128 - 6);
        dueChoice(y, 0, 38, NONE, 9 + 9 + 4 + 9, 3);
        dueChoice(y, 1, 32, NONE, 4 + 9 + 9 + 4 + 9 + 9 + 4 + 9, 7);
        dueChoice(y, 2, 33, NONE, 9 + 4 + 9 + 4 + 9 + 9 + 4 + 9, 7);
        dueChoice(y, 121, 127, NONE, 39 + 39 + 9 + 4 + 9 + 9 + 4 + 9, 7);
    }

    private static void dueRefused(TextMender x, int a, int b, int fault) {
        x.size(0);
        due("choices(" + a + ", " + b + ")", x.choices(a, b), NONE);
        due("where()", x.where(), fault);
    }

    private static void choicesNumberOfMarks() {
        says("26", "Refused: another number of MARKS");
        dueRefused(new TextMender(), 1, 0, NONE);
        dueRefused(with("a\u00e9"), 1, 2, NONE);
        dueRefused(with(MARK, MARK, MARK), 1, 0, NONE);
        dueRefused(with(MARK, MARK, MARK, 233), 1, 2, NONE);
        dueRefused(with(65532, 65534), 1, 2, NONE);
        dueRefused(with(same(100, MARK)), 1, 0, NONE);
    }

    private static void choicesNoCodes() {
        says("26", "no such CODES");
        for (int code : NO_CODES) {
            dueRefused(with(MARK), code, 0, NONE);
            dueRefused(with(MARK), 1, code, NONE);
            dueRefused(with(MARK, 233), code, 2, NONE);
        }
    }

    private static void choicesOver100() {
        says("26", "more than 100 LETTERS");
        due("100", with(joined(same(99, 97), MARK)).choices(1, 0), 128);
        dueRefused(with(joined(same(100, 97), MARK)), 1, 0, NONE);
        dueRefused(with(joined(same(299, 97), MARK)), 1, 0, NONE);
        due("100 of eight bytes but one", with(joined(same(99, 65535), MARK)).choices(3, 3), 0);
        // of THE TEXT as it is, not as it was
        TextMender x = with(97, MARK);
        put(x, joined(same(100, 97), MARK));
        x.text();
        x.back();
        due("taken back to two", x.choices(1, 0), 128);
        put(x, joined(same(100, 97), MARK));
        x.text();
        put(x, 97, MARK);
        x.text();
        x.back();
        due("taken back to 101", x.choices(1, 0), NONE);
    }

    private static void choicesMissingLetter() {
        says("26", "another LETTER that b has not (where() tells its place)");
        dueRefused(with(97, MARK, 128, 129), 1, 0, 2);
        dueRefused(with(233, MARK), 1, 0, 0);
        dueRefused(with(MARK, MARK, 256), 2, 1, 2);
        dueRefused(with(joined(same(98, 97), MARK, 300)), 1, 1, 99);
        dueRefused(with(MARK, 97), 1, 4, 1);
        due("the MARK itself is not asked", with(MARK, 97).choices(1, 0), 128);
    }

    // ---- 27

    private static void choiceLatest() {
        says("27", "(by the latest choices()");
        TextMender x = with(MARK);
        due("before any choices()", x.choice(0, 0), NONE);
        x.span(4, 200, 1, 1000, 0);
        x.choices(4, 0);
        dueChoice(x, 0, 200, NONE, 18, 1);
        x.choices(9, 0);
        dueChoice(x, 0, 200, NONE, 18, 1);
        x.text();
        dueChoice(x, 0, 200, NONE, 18, 1);
        x.cost(32, 1000, 100);
        x.blank(4);
        due("the bytes stay", x.choice(0, 0), 200);
        x.back();
        due("the latest", x.choices(4, 0), 0);
        due("the latest", x.choice(0, 0), NONE);
    }

    private static void choiceTold200() {
        says("27", "the first 200 are told");
        TextMender x = with(MARK, MARK);
        x.choices(1, 0);
        dueChoice(x, 199, 195, 192 + 199 % 62, 22, 2);
        dueChoice(x, 200, NONE, NONE, NONE, NONE);
        TextMender y = with(MARK);
        y.choices(1, 4);
        due("the 200th of 256", y.choice(199, 0) != NONE, true);
        due("the 201st of 256", y.choice(200, 0), NONE);
        TextMender z = with(MARK);
        z.span(4, 0, 56, 0, 1);
        due("just 200", z.choices(1, 4), 200);
        due("the 200th", z.choice(199, 0) != NONE, true);
        due("none more", z.choice(200, 0), NONE);
    }

    private static void choiceBytes() {
        says("27", "what 0, 1: its bytes (NONE), 2: COST, 3: LETTERS");
        TextMender x = with(97, MARK);
        x.choices(1, 0);
        dueChoice(x, 0, 192, NONE, 27, 2);
        put(x, MARK, 97, MARK);
        x.text();
        x.choices(1, 0);
        dueChoice(x, 0, 192, 192, 36, 3);
    }

    private static void choiceNoneSuch() {
        says("27", "NONE: none such");
        TextMender x = with(MARK);
        x.choices(1, 0);
        for (int what = 0; what < 4; what++) {
            due("the last", x.choice(127, what) != NONE, what != 1);
            for (int i : new int[] {128, -1, 200, Integer.MIN_VALUE, Integer.MAX_VALUE}) {
                due("choice(" + i + ", " + what + ")", x.choice(i, what), NONE);
            }
        }
    }

    private static void choiceAnotherWhat() {
        says("27", "another what");
        TextMender x = with(MARK, MARK);
        x.choices(1, 0);
        for (int what : new int[] {-1, 4, Integer.MIN_VALUE, Integer.MAX_VALUE}) {
            due("choice(0, " + what + ")", x.choice(0, what), NONE);
        }
    }

    // ---- 28

    private static void chosenIs() {
        says("28", "THE TEXT is what came of the i-th CHOICE: true");
        TextMender x = with(97, MARK);
        x.choices(1, 0);
        int first = x.choice(0, 0);
        int last = x.choice(127, 0);
        due("the first", x.chosen(0), true);
        dueText("the first", x, 97, first);
        x.back();
        x.choices(1, 0);
        due("the last", x.chosen(127), true);
        dueText("the last", x, 97, last);
        TextMender y = with(MARK, MARK);
        y.choices(2, 0);
        due("two bytes of one letter", y.chosen(0), true);
        dueText("two bytes of one letter", y, 192);
        TextMender z = with(MARK, MARK);
        z.choices(1, 0);
        due("the 200th", z.chosen(199), true);
        dueText("the 200th", z, 195, 192 + 199 % 62);
    }

    private static void chosenNoneSuch() {
        says("28", "false if there is none such");
        due("before any choices()", with(MARK).chosen(0), false);
        TextMender x = with(MARK);
        x.choices(1, 0);
        for (int i : new int[] {128, -1, 200, Integer.MIN_VALUE, Integer.MAX_VALUE}) {
            due("chosen(" + i + ")", x.chosen(i), false);
        }
        dueText("stays", x, MARK);
        due("no change", x.count(3), 1);
        due("there is one such", x.chosen(127), true);
        TextMender y = with(MARK);
        y.choices(1, 1);
        due("of none", y.chosen(0), false);
    }

    private static TextMender withChoices() {
        TextMender x = with(99, MARK);
        x.list(2, 2);
        x.cost(1, 2, 3);
        x.span(4, 0, 3, 1000, 1);
        x.list(4, 4);
        x.choices(1, 0);
        return x;
    }

    private static final Call[] CHANGING = {
        TextMender::text, x -> x.read(0), x -> x.harm(2, 2), x -> x.rough(2, 2), x -> x.undo(2, 2), x -> x.parts(0),
        TextMender::back, x -> x.chosen(1) ? 1 : NONE, x -> x.list(0, 0), TextMender::unlist,
        x -> x.cost(32, 99, 1) ? 1 : NONE, x -> x.span(4, 9, 1, 2000, 0), x -> x.span(5, 9, 1, 2000, 0),
        x -> x.blank(4) ? 1 : NONE};

    private static void chosenAfterChange() {
        says("28", "or THE TEXT, THE LIST, a cost or a TOLD CODE was changed since choices()");
        for (int k = 0; k < CHANGING.length; k++) {
            TextMender x = withChoices();
            due("not refused, call " + k, CHANGING[k].on(x) >= 0, true);
            int changes = x.count(3);
            due("after call " + k, x.chosen(0), false);
            due("no change, after call " + k, x.count(3), changes);
            due("still told, after call " + k, x.choice(0, 0), 192);
        }
        // changed, and changed back
        TextMender x = withChoices();
        x.harm(2, 2);
        x.back();
        due("the same text", x.chosen(0), false);
        due("asked anew", x.choices(1, 0), 128);
        due("asked anew", x.chosen(0), true);
    }

    private static void chosenToldAnew() {
        says("28", "(or told anew)");
        TextMender x = withChoices();
        put(x, 99, MARK);
        x.text();
        due("the same text", x.chosen(0), false);
        x = withChoices();
        x.cost(1, 2, 3);
        due("the same cost", x.chosen(0), false);
        x = withChoices();
        x.blank(4);
        x.span(4, 0, 3, 1000, 1);
        due("the same code", x.chosen(0), false);
        x = withChoices();
        x.unlist();
        x.list(2, 2);
        x.list(4, 4);
        due("the same list", x.chosen(0), false);
    }

    private static final Call[] CHANGING_NOTHING = {
        x -> x.harm(0, 0), x -> x.harm(9, 0), x -> x.rough(0, 0), x -> x.undo(0, 0), x -> x.mend(3, 1), x -> x.mend(9, 1),
        x -> x.parts(-1), x -> x.chosen(-1) ? 1 : NONE, x -> x.chosen(128) ? 1 : NONE, x -> x.list(2, 2),
        x -> x.list(9, 0), x -> x.cost(32, 99, 201) ? 1 : NONE, x -> x.span(4, 0, 1, 2000, 0), x -> x.blank(3) ? 1 : NONE,
        x -> x.choices(9, 0), x -> x.rows(9), x -> x.read(9)};

    private static void chosenAfterRefused() {
        says("28", "THE TEXT is what came of the i-th CHOICE: true");
        for (int k = 0; k < CHANGING_NOTHING.length; k++) {
            TextMender x = withChoices();
            due("refused, call " + k, CHANGING_NOTHING[k].on(x), NONE);
            due("after call " + k, x.chosen(0), true);
            dueText("after call " + k, x, 99, 192);
        }
        TextMender x = withChoices();
        x.feed(1, 2, 3, 4, -5);
        x.text();
        x.end(0);
        x.rows(3);
        x.row(0, 0);
        x.worth();
        x.size(2);
        x.byteOf(2, 0);
        x.safe(0, 1);
        x.count(0);
        x.where();
        due("after calls that only tell", x.chosen(0), true);
    }
}
