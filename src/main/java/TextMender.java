import java.util.Arrays;
import java.util.NoSuchElementException;

/**
 * A mender of texts that went through wrong codes. The words in capitals in the comments are the terms of
 * the document; every row that a call needs is made in the constructor and used again, so no call makes
 * an object.
 */
public final class TextMender {
    public static final int NONE = -1;

    private static final int MARK = 65533;
    private static final int BLANK = 32;
    private static final int MOST_LETTERS = 300;
    private static final int MOST_BYTES = 900;
    /** The longest LETTER in any CODE is told by eight bytes: & # five digits ; */
    private static final int LONGEST = 8;
    private static final int BYTE_VALUES = 256;
    private static final int MOST_HARMS = 6;
    private static final int MOST_IN_ROW = 3;
    private static final int MOST_GAIN = 100000;
    private static final int MOST_PRICE = 1000;
    private static final int MOST_PARTED = 60;
    private static final int MOST_WITH_MARKS = 100;

    private final Numbers tape;
    private final Numbers letters;
    private final Numbers made;
    private final Codes codes;
    private final Passage passage;
    private final Harms harms;
    private final Costs costs;
    private final Changes changes;
    private final Rows rowBook;
    private final Parting parting;
    private final Choices choiceBook;
    private int fault;

    public TextMender() {
        Codes ownCodes = new Codes();
        Passage ownPassage = new Passage(ownCodes);
        Harms ownHarms = new Harms(ownPassage);
        Costs ownCosts = new Costs();
        tape = new Numbers(MOST_BYTES);
        letters = new Numbers(MOST_LETTERS);
        made = new Numbers(MOST_LETTERS);
        codes = ownCodes;
        passage = ownPassage;
        harms = ownHarms;
        costs = ownCosts;
        changes = new Changes();
        rowBook = new Rows(ownHarms, ownCosts);
        parting = new Parting(ownCodes, ownHarms, ownCosts);
        choiceBook = new Choices(ownCodes, ownCosts);
        fault = NONE;
    }

    // ---- texts, codes

    public int feed(int a, int b, int c, int d, int e) {
        if (tape.length() + 5 > MOST_BYTES) {
            return NONE;
        }
        tape.add(a);
        tape.add(b);
        tape.add(c);
        tape.add(d);
        tape.add(e);
        return tape.length();
    }

    public boolean end(int n) {
        if (n < 0 || n > tape.length()) {
            return false;
        }
        tape.cut(n);
        return true;
    }

    public int text() {
        fault = NONE;
        boolean good = tape.length() <= MOST_LETTERS && tapeHoldsLetters();
        if (good) {
            made.takeAll(tape);
        }
        // a refused call empties THE TAPE, too
        tape.cut(0);
        return good ? become(made) : NONE;
    }

    public int read(int code) {
        fault = NONE;
        boolean good = Codes.known(code) && tapeHoldsBytes();
        if (good) {
            good = passage.readExactly(code, tape, made);
            fault = passage.fault();
        }
        // a refused call empties THE TAPE, too
        tape.cut(0);
        return good ? become(made) : NONE;
    }

    public int span(int code, int from, int n, int letter, int step) {
        fault = NONE;
        ToldCode told = codes.toldCode(code);
        if (told == null || !told.canTake(from, n, letter, step)) {
            return NONE;
        }
        for (int i = 0; i < n; i++) {
            told.tell(from + i, letter + i * step);
        }
        choiceBook.forgetFreshness();
        return told.length();
    }

    public boolean blank(int code) {
        ToldCode told = codes.toldCode(code);
        if (told == null) {
            return false;
        }
        told.empty();
        choiceBook.forgetFreshness();
        return true;
    }

    public int count(int what) {
        switch (what) {
            case 0: return letters.length();
            case 1: return tape.length();
            case 2: return harms.length();
            case 3: return changes.length();
            case 4: return marksOf(letters);
            case 5: return costs.length();
            case 6: return codes.lengthOf(4);
            case 7: return codes.lengthOf(5);
            default: return NONE;
        }
    }

    public int at(int i) throws NoSuchElementException {
        if (i < 0 || i >= letters.length()) {
            throw new NoSuchElementException("no such letter");
        }
        return letters.get(i);
    }

    public int size(int code) {
        return writes(code) ? passage.bytes().length() : NONE;
    }

    public int byteOf(int code, int i) {
        return writes(code) ? passage.bytes().get(i) : NONE;
    }

    public int where() {
        return fault;
    }

    // ---- harms

    public int harm(int a, int b) {
        return passes(a, b) ? become(made) : NONE;
    }

    public int rough(int a, int b) {
        fault = NONE;
        if (!Codes.known(a) || !Codes.known(b)) {
            return NONE;
        }
        int marks = passage.passRoughly(a, b, letters, made);
        fault = passage.fault();
        if (marks == NONE) {
            return NONE;
        }
        become(made);
        return marks;
    }

    public int undo(int a, int b) {
        // no CODE tells a LETTER in two ways, so what (b, a) makes always comes back by (a, b)
        return passes(b, a) ? become(made) : NONE;
    }

    public int safe(int a, int b) {
        fault = NONE;
        if (!Codes.known(a) || !Codes.known(b)) {
            return NONE;
        }
        return codes.neverLost(a, b) ? 1 : 0;
    }

    public int back() {
        if (!changes.takeBack(letters)) {
            return NONE;
        }
        choiceBook.forgetFreshness();
        return changes.length();
    }

    // ---- rows of harms

    public int list(int a, int b) {
        fault = NONE;
        if (!Codes.known(a) || !Codes.known(b) || !harms.tell(a, b)) {
            return NONE;
        }
        choiceBook.forgetFreshness();
        return harms.length() - 1;
    }

    public int unlist() {
        int had = harms.length();
        harms.empty();
        choiceBook.forgetFreshness();
        return had;
    }

    public int rows(int n) {
        fault = NONE;
        if (n < 1 || n > MOST_IN_ROW) {
            return NONE;
        }
        rowBook.find(n, letters);
        return rowBook.keepFound();
    }

    public int row(int i, int what) {
        return rowBook.told(i, what);
    }

    // ---- costs

    public boolean cost(int x, int y, int v) {
        if (!isLetter(x) || !isLetter(y) || !costs.tell(x, y, v)) {
            return false;
        }
        choiceBook.forgetFreshness();
        return true;
    }

    public int worth() {
        return costs.ofText(letters);
    }

    public int mend(int n, int gain) {
        fault = NONE;
        if (n < 1 || n > MOST_IN_ROW || gain < 1 || gain > MOST_GAIN) {
            return NONE;
        }
        rowBook.find(n, letters);
        int place = rowBook.cheapest();
        if (place == NONE || costs.ofText(letters) - rowBook.costAt(place) < gain) {
            return NONE;
        }
        if (!rowBook.build(place, letters, made)) {
            return NONE;
        }
        become(made);
        return rowBook.numberOf(place);
    }

    public int parts(int price) {
        fault = NONE;
        boolean fits = letters.length() > 0 && letters.length() <= MOST_PARTED;
        if (!fits || price < 0 || price > MOST_PRICE) {
            return NONE;
        }
        parting.find(letters, price);
        if (!parting.build(letters, made)) {
            return NONE;
        }
        become(made);
        return parting.spans();
    }

    // ---- marks

    public int choices(int a, int b) {
        fault = NONE;
        int marks = marksOf(letters);
        boolean good = Codes.known(a) && Codes.known(b) && (marks == 1 || marks == 2);
        if (!good || letters.length() > MOST_WITH_MARKS) {
            return NONE;
        }
        fault = choiceBook.layOut(b, letters);
        if (fault != NONE) {
            return NONE;
        }
        return choiceBook.find(a, b);
    }

    public int choice(int i, int what) {
        return choiceBook.told(i, what);
    }

    public boolean chosen(int i) {
        if (!choiceBook.isFresh(i) || !choiceBook.build(i, letters, passage, made)) {
            return false;
        }
        become(made);
        return true;
    }

    // ---- what the calls above share

    private boolean tapeHoldsLetters() {
        for (int i = 0; i < tape.length(); i++) {
            if (!isLetter(tape.get(i))) {
                fault = i;
                return false;
            }
        }
        return true;
    }

    private boolean tapeHoldsBytes() {
        for (int i = 0; i < tape.length(); i++) {
            int number = tape.get(i);
            if (number < 0 || number >= BYTE_VALUES) {
                fault = i;
                return false;
            }
        }
        return true;
    }

    private boolean writes(int code) {
        fault = NONE;
        if (!Codes.known(code)) {
            return false;
        }
        boolean good = passage.write(code, letters);
        fault = passage.fault();
        return good;
    }

    private boolean passes(int a, int b) {
        fault = NONE;
        if (!Codes.known(a) || !Codes.known(b)) {
            return false;
        }
        boolean good = passage.pass(a, b, letters, made);
        fault = passage.fault();
        return good;
    }

    private int become(Numbers next) {
        changes.remember(letters);
        letters.takeAll(next);
        choiceBook.forgetFreshness();
        return letters.length();
    }

    private static int marksOf(Numbers text) {
        int marks = 0;
        for (int i = 0; i < text.length(); i++) {
            if (text.get(i) == MARK) {
                marks++;
            }
        }
        return marks;
    }

    private static boolean isLetter(int number) {
        return number >= 0 && number <= 65535 && (number < 55296 || number > 57343);
    }

    /** Numbers one behind another, never more than it was made for: THE TAPE, a text, BYTES. */
    private static final class Numbers {
        private final int[] numbers;
        private int length;

        Numbers(int most) {
            numbers = new int[Math.max(0, most)];
            length = 0;
        }

        int length() {
            return length;
        }

        /** NONE where there is none, so that no place needs a test ahead of it. */
        int get(int i) {
            return i >= 0 && i < length ? numbers[i] : NONE;
        }

        void set(int i, int number) {
            if (i >= 0 && i < length) {
                numbers[i] = number;
            }
        }

        boolean add(int number) {
            if (length >= numbers.length) {
                return false;
            }
            numbers[length] = number;
            length++;
            return true;
        }

        boolean addAll(Numbers other) {
            if (other.length > numbers.length - length) {
                return false;
            }
            System.arraycopy(other.numbers, 0, numbers, length, other.length);
            length += other.length;
            return true;
        }

        boolean takeAll(Numbers other) {
            length = 0;
            return addAll(other);
        }

        void cut(int n) {
            if (n >= 0 && n < length) {
                length = n;
            }
        }
    }

    /** A CODE that is told: a table of bytes, and the same the other way round by scattered places. */
    private static final class ToldCode {
        private static final int PLACES = 512;
        private final int[] letterOf = new int[BYTE_VALUES];
        private final int[] placeLetter = new int[PLACES];
        private final int[] placeByte = new int[PLACES];
        private int length;

        ToldCode() {
            Arrays.fill(letterOf, NONE);
            Arrays.fill(placeByte, NONE);
            length = 0;
        }

        int length() {
            return length;
        }

        void empty() {
            Arrays.fill(letterOf, NONE);
            Arrays.fill(placeByte, NONE);
            length = 0;
        }

        int letterFor(int value) {
            return value >= 0 && value < BYTE_VALUES ? letterOf[value] : NONE;
        }

        int byteFor(int letter) {
            int place = placeFor(letter);
            return place == NONE ? NONE : placeByte[place];
        }

        boolean canTake(int from, int n, int letter, int step) {
            boolean bytesThere = from >= 0 && from < BYTE_VALUES && n >= 1 && n <= BYTE_VALUES - from;
            if (!bytesThere || step < -255 || step > 255 || !isLetter(letter)) {
                return false;
            }
            if (step == 0 && n > 1) {
                return false;
            }
            for (int i = 0; i < n; i++) {
                int next = letter + i * step;
                if (!isLetter(next) || letterFor(from + i) != NONE || byteFor(next) != NONE) {
                    return false;
                }
            }
            return true;
        }

        void tell(int value, int letter) {
            int place = placeFor(letter);
            if (place == NONE || value < 0 || value >= BYTE_VALUES) {
                return;
            }
            letterOf[value] = letter;
            placeLetter[place] = letter;
            placeByte[place] = value;
            length++;
        }

        /** Where the LETTER stands, or the free place where it would. */
        private int placeFor(int letter) {
            int start = (letter * 0x9E3779B1) >>> 23;
            for (int k = 0; k < PLACES; k++) {
                int place = (start + k) & (PLACES - 1);
                if (placeByte[place] == NONE || placeLetter[place] == letter) {
                    return place;
                }
            }
            return NONE;
        }
    }

    /** The six CODES, LETTER by LETTER. */
    private static final class Codes {
        private static final int PLAIN = 0;
        private static final int WIDE = 1;
        private static final int MANY = 2;
        private static final int NUMBERED = 3;
        private static final int AMPERSAND = 38;
        private static final int HASH = 35;
        private static final int SEMICOLON = 59;
        private static final int ZERO = 48;
        private final ToldCode four = new ToldCode();
        private final ToldCode five = new ToldCode();

        static boolean known(int code) {
            return code >= 0 && code <= 5;
        }

        ToldCode toldCode(int code) {
            return code == 4 ? four : code == 5 ? five : null;
        }

        int lengthOf(int code) {
            ToldCode told = toldCode(code);
            return told == null ? NONE : told.length();
        }

        static int letterIn(int found) {
            return found >> 4;
        }

        static int bytesIn(int found) {
            return found & 15;
        }

        /** One answer for a LETTER and how many bytes told it, so that no object has to be made for it. */
        private static int found(int letter, int bytes) {
            return letter == NONE ? NONE : (letter << 4) + bytes;
        }

        /** The LETTER that the byte is by itself, or NONE. */
        int letterAlone(int code, int value) {
            switch (code) {
                case PLAIN:
                case MANY:
                    return value < 128 ? value : NONE;
                case WIDE:
                    return value;
                case NUMBERED:
                    return value < 128 && value != AMPERSAND ? value : NONE;
                default:
                    ToldCode told = toldCode(code);
                    return told == null ? NONE : told.letterFor(value);
            }
        }

        /** The LETTER told by the bytes from one on, all of them ahead of end; NONE if they tell none. */
        int decode(int code, Numbers bytes, int from, int end) {
            int first = bytes.get(from);
            if (first == NONE || from >= end) {
                return NONE;
            }
            int alone = letterAlone(code, first);
            if (alone != NONE) {
                return found(alone, 1);
            }
            if (code == MANY) {
                return decodeMany(bytes, from, end);
            }
            return code == NUMBERED ? decodeNumber(bytes, from, end) : NONE;
        }

        private static int decodeMany(Numbers bytes, int from, int end) {
            int first = bytes.get(from);
            int needed = first >= 224 ? 3 : 2;
            if (first < 192 || first > 239 || needed > end - from) {
                return NONE;
            }
            int letter = needed == 3 ? first - 224 : first - 192;
            for (int i = 1; i < needed; i++) {
                int next = bytes.get(from + i);
                if (next < 128 || next > 191) {
                    return NONE;
                }
                letter = letter * 64 + next - 128;
            }
            boolean shortest = letter >= (needed == 3 ? 2048 : 128);
            return shortest && isLetter(letter) ? found(letter, needed) : NONE;
        }

        private static int decodeNumber(Numbers bytes, int from, int end) {
            if (bytes.get(from) != AMPERSAND || from + 1 >= end || bytes.get(from + 1) != HASH) {
                return NONE;
            }
            int number = 0;
            for (int p = from + 2; p < end && p < from + LONGEST; p++) {
                int next = bytes.get(p);
                if (next == SEMICOLON) {
                    return isLetter(number) && isNumbered(number) ? found(number, p + 1 - from) : NONE;
                }
                boolean zeroAhead = number == 0 && next == ZERO;
                if (next < ZERO || next > ZERO + 9 || zeroAhead) {
                    return NONE;
                }
                number = number * 10 + next - ZERO;
            }
            return NONE;
        }

        private static boolean isNumbered(int letter) {
            return letter >= 128 || letter == AMPERSAND;
        }

        /** The LETTER's bytes come behind the others; false if the CODE has it not. */
        boolean encode(int code, int letter, Numbers bytes) {
            switch (code) {
                case PLAIN:
                    return letter < 128 && bytes.add(letter);
                case WIDE:
                    return letter < 256 && bytes.add(letter);
                case MANY:
                    return encodeMany(letter, bytes);
                case NUMBERED:
                    return isNumbered(letter) ? encodeNumber(letter, bytes) : bytes.add(letter);
                default:
                    ToldCode told = toldCode(code);
                    int value = told == null ? NONE : told.byteFor(letter);
                    return value != NONE && bytes.add(value);
            }
        }

        private static boolean encodeMany(int letter, Numbers bytes) {
            if (letter < 128) {
                return bytes.add(letter);
            }
            boolean good;
            if (letter < 2048) {
                good = bytes.add(192 + (letter >> 6));
            } else {
                good = bytes.add(224 + (letter >> 12)) && bytes.add(128 + ((letter >> 6) & 63));
            }
            return good && bytes.add(128 + (letter & 63));
        }

        private static boolean encodeNumber(int letter, Numbers bytes) {
            boolean good = bytes.add(AMPERSAND) && bytes.add(HASH);
            boolean begun = false;
            for (int unit = 10000; unit > 0; unit /= 10) {
                int digit = letter / unit % 10;
                begun = begun || digit != 0;
                if (begun) {
                    good = good && bytes.add(ZERO + digit);
                }
            }
            return good && bytes.add(SEMICOLON);
        }

        /** Whether all that can be WRITTEN in a can be READ in b. */
        boolean neverLost(int a, int b) {
            if (a == b) {
                return true;
            }
            // Two CODES tell LETTERS by more than one byte. Only MANY itself makes what else MANY reads, and
            // NUMBERED likewise; so of another CODE each byte must be a LETTER by itself.
            for (int value = 0; value < BYTE_VALUES; value++) {
                if (isWritten(a, value) && letterAlone(b, value) == NONE) {
                    return false;
                }
            }
            return true;
        }

        private boolean isWritten(int code, int value) {
            switch (code) {
                case MANY:
                    return value < 192 || value > 193 && value < 240;
                case NUMBERED:
                    return value < 128;
                default:
                    return letterAlone(code, value) != NONE;
            }
        }
    }

    /** WRITTEN in one CODE, READ in another. */
    private static final class Passage {
        private final Codes codes;
        private final Numbers bytes = new Numbers(LONGEST * MOST_LETTERS);
        private int fault;

        Passage(Codes codes) {
            this.codes = codes;
            fault = NONE;
        }

        Numbers bytes() {
            return bytes;
        }

        int fault() {
            return fault;
        }

        boolean write(int code, Numbers text) {
            fault = NONE;
            bytes.cut(0);
            for (int i = 0; i < text.length(); i++) {
                if (!codes.encode(code, text.get(i), bytes)) {
                    fault = i;
                    return false;
                }
            }
            return true;
        }

        /** It reads on when there are too many LETTERS, for a FAULT behind them is to be told all the same. */
        boolean readExactly(int code, Numbers source, Numbers to) {
            fault = NONE;
            to.cut(0);
            boolean fits = true;
            int p = 0;
            while (p < source.length()) {
                int found = codes.decode(code, source, p, source.length());
                if (found == NONE) {
                    fault = p;
                    return false;
                }
                fits = to.add(Codes.letterIn(found)) && fits;
                p += Math.max(1, Codes.bytesIn(found));
            }
            return fits;
        }

        boolean pass(int a, int b, Numbers text, Numbers to) {
            return write(a, text) && readExactly(b, bytes, to) && bytes.length() <= MOST_BYTES;
        }

        /** How many bytes became a MARK; NONE if it cannot be. */
        int passRoughly(int a, int b, Numbers text, Numbers to) {
            if (!write(a, text) || bytes.length() > MOST_BYTES) {
                return NONE;
            }
            to.cut(0);
            int marks = 0;
            int p = 0;
            while (p < bytes.length()) {
                int found = codes.decode(b, bytes, p, bytes.length());
                if (!to.add(found == NONE ? MARK : Codes.letterIn(found))) {
                    return NONE;
                }
                marks += found == NONE ? 1 : 0;
                p += found == NONE ? 1 : Math.max(1, Codes.bytesIn(found));
            }
            return marks;
        }
    }

    /** THE LIST. */
    private static final class Harms {
        private final Passage passage;
        private final int[] writtenIn = new int[MOST_HARMS];
        private final int[] readIn = new int[MOST_HARMS];
        private int length;

        Harms(Passage passage) {
            this.passage = passage;
            length = 0;
        }

        int length() {
            return length;
        }

        void empty() {
            length = 0;
        }

        boolean tell(int a, int b) {
            for (int h = 0; h < length; h++) {
                if (writtenIn[h] == a && readIn[h] == b) {
                    return false;
                }
            }
            if (length >= MOST_HARMS) {
                return false;
            }
            writtenIn[length] = a;
            readIn[length] = b;
            length++;
            return true;
        }

        int writtenIn(int h) {
            return h >= 0 && h < length ? writtenIn[h] : NONE;
        }

        int readIn(int h) {
            return h >= 0 && h < length ? readIn[h] : NONE;
        }

        /** HARM h UNDONE; false if it CAN not. That (b, a) is enough is told at undo(). */
        boolean takeOff(int h, Numbers text, Numbers to) {
            return h >= 0 && h < length && passage.pass(readIn[h], writtenIn[h], text, to);
        }
    }

    /** What neighbours cost. */
    private static final class Costs {
        private static final int PLACES = 1024;
        private static final int MOST_TOLD = 300;
        private static final int MOST_VALUE = 200;
        private static final int ALIKE = 4;
        private static final int UNLIKE = 9;
        private static final int STRANGE = 30;
        private final int[] pair = new int[PLACES];
        private final int[] value = new int[PLACES];
        private int length;

        Costs() {
            Arrays.fill(value, NONE);
            length = 0;
        }

        int length() {
            return length;
        }

        boolean tell(int x, int y, int v) {
            int place = placeFor(x, y);
            if (place == NONE || v < 0 || v > MOST_VALUE) {
                return false;
            }
            if (value[place] == NONE) {
                if (length >= MOST_TOLD) {
                    return false;
                }
                pair[place] = pairOf(x, y);
                length++;
            }
            value[place] = v;
            return true;
        }

        int of(int x, int y) {
            int place = length == 0 ? NONE : placeFor(x, y);
            if (place != NONE && value[place] != NONE) {
                return value[place];
            }
            int sortX = sortOf(x);
            int sortY = sortOf(y);
            int sum = sortX == sortY ? ALIKE : UNLIKE;
            sum += sortX == 0 ? STRANGE : 0;
            return sum + (sortY == 0 ? STRANGE : 0);
        }

        int ofText(Numbers text) {
            int sum = 0;
            int before = BLANK;
            for (int i = 0; i < text.length(); i++) {
                int letter = text.get(i);
                sum += of(before, letter);
                before = letter;
            }
            return sum + of(before, BLANK);
        }

        private static int pairOf(int x, int y) {
            return (x << 16) | y;
        }

        private static int sortOf(int letter) {
            if (letter < 33 || letter > 126) {
                return sortOutside(letter);
            }
            if (letter >= 'a' && letter <= 'z') {
                return 1;
            }
            if (letter >= 'A' && letter <= 'Z') {
                return 2;
            }
            return letter >= '0' && letter <= '9' ? 3 : 5;
        }

        private static int sortOutside(int letter) {
            if (letter == BLANK) {
                return 4;
            }
            if (letter >= 192 && letter <= 591) {
                return letter == 215 || letter == 247 ? 0 : 6;
            }
            return letter >= 880 && letter <= 1327 ? 7 : 0;
        }

        /** Where the two stand, or the free place where they would; told costs never fill all places. */
        private int placeFor(int x, int y) {
            int wanted = pairOf(x, y);
            int start = (wanted * 0x9E3779B1) >>> 22;
            for (int k = 0; k < PLACES; k++) {
                int place = (start + k) & (PLACES - 1);
                if (value[place] == NONE || pair[place] == wanted) {
                    return place;
                }
            }
            return NONE;
        }
    }

    /** THE TEXT as it was ahead of each of the latest changes, in a ring. */
    private static final class Changes {
        private static final int MOST = 20;
        private final int[] kept = new int[MOST * MOST_LETTERS];
        private final int[] keptLength = new int[MOST];
        private int next;
        private int length;

        Changes() {
            next = 0;
            length = 0;
        }

        int length() {
            return length;
        }

        void remember(Numbers text) {
            int n = Math.min(text.length(), MOST_LETTERS);
            for (int i = 0; i < n; i++) {
                kept[next * MOST_LETTERS + i] = text.get(i);
            }
            keptLength[next] = n;
            next = next == MOST - 1 ? 0 : next + 1;
            length = Math.min(length + 1, MOST);
        }

        boolean takeBack(Numbers text) {
            if (length == 0) {
                return false;
            }
            next = next == 0 ? MOST - 1 : next - 1;
            length--;
            text.cut(0);
            for (int i = 0; i < keptLength[next]; i++) {
                text.add(kept[next * MOST_LETTERS + i]);
            }
            return true;
        }
    }

    /** All ROWS that MAKE a text, each at its place among all ROWS there could be; and what row() tells. */
    private static final class Rows {
        private static final int MOST = 258;
        private final Harms harms;
        private final Costs costs;
        private final Numbers one = new Numbers(MOST_LETTERS);
        private final Numbers two = new Numbers(MOST_LETTERS);
        private final Numbers three = new Numbers(MOST_LETTERS);
        private final int[] foundCost = new int[MOST];
        private final int[] foundLength = new int[MOST];
        private final int[] foundHarms = new int[MOST * MOST_IN_ROW];
        private final int[] toldCost = new int[MOST];
        private final int[] toldLength = new int[MOST];
        private final int[] toldHarms = new int[MOST * MOST_IN_ROW];
        private int told;

        Rows(Harms harms, Costs costs) {
            this.harms = harms;
            this.costs = costs;
            Arrays.fill(foundCost, NONE);
            told = 0;
        }

        /** The last HARM is undone first, so each beginning of the undoing is done once for all its ROWS. */
        void find(int n, Numbers text) {
            Arrays.fill(foundCost, NONE);
            int all = harms.length();
            for (int last = 0; last < all; last++) {
                if (!harms.takeOff(last, text, one)) {
                    continue;
                }
                note(last, one);
                nameHarms(last, last, NONE, NONE);
                for (int middle = 0; n > 1 && middle < all; middle++) {
                    if (!harms.takeOff(middle, one, two)) {
                        continue;
                    }
                    int place = all + middle * all + last;
                    note(place, two);
                    nameHarms(place, middle, last, NONE);
                    for (int first = 0; n > 2 && first < all; first++) {
                        if (harms.takeOff(first, two, three)) {
                            int third = all + all * all + (first * all + middle) * all + last;
                            note(third, three);
                            nameHarms(third, first, middle, last);
                        }
                    }
                }
            }
        }

        private void note(int place, Numbers text) {
            if (place >= 0 && place < MOST) {
                foundCost[place] = costs.ofText(text);
                foundLength[place] = text.length();
            }
        }

        private void nameHarms(int place, int first, int second, int third) {
            if (place >= 0 && place < MOST) {
                foundHarms[place * MOST_IN_ROW] = first;
                foundHarms[place * MOST_IN_ROW + 1] = second;
                foundHarms[place * MOST_IN_ROW + 2] = third;
            }
        }

        /** What was found is what row() tells from now on: how many. */
        int keepFound() {
            told = 0;
            for (int place = 0; place < MOST; place++) {
                if (foundCost[place] != NONE) {
                    toldCost[told] = foundCost[place];
                    toldLength[told] = foundLength[place];
                    for (int k = 0; k < MOST_IN_ROW; k++) {
                        toldHarms[told * MOST_IN_ROW + k] = foundHarms[place * MOST_IN_ROW + k];
                    }
                    told++;
                }
            }
            return told;
        }

        int told(int i, int what) {
            if (i < 0 || i >= told) {
                return NONE;
            }
            int start = i * MOST_IN_ROW;
            switch (what) {
                case 0: return toldHarms[start + 1] == NONE ? 1 : toldHarms[start + 2] == NONE ? 2 : 3;
                case 1: return toldHarms[start];
                case 2: return toldHarms[start + 1];
                case 3: return toldHarms[start + 2];
                case 4: return toldCost[i];
                case 5: return toldLength[i];
                default: return NONE;
            }
        }

        int cheapest() {
            int best = NONE;
            for (int place = 0; place < MOST; place++) {
                if (foundCost[place] != NONE && (best == NONE || foundCost[place] < foundCost[best])) {
                    best = place;
                }
            }
            return best;
        }

        int costAt(int place) {
            return place >= 0 && place < MOST ? foundCost[place] : NONE;
        }

        int numberOf(int place) {
            int number = 0;
            for (int before = 0; before < place && before < MOST; before++) {
                if (foundCost[before] != NONE) {
                    number++;
                }
            }
            return number;
        }

        /** What the ROW at the place MAKES the text of. */
        boolean build(int place, Numbers text, Numbers to) {
            if (place < 0 || place >= MOST) {
                return false;
            }
            one.takeAll(text);
            for (int k = MOST_IN_ROW - 1; k >= 0; k--) {
                int number = foundHarms[place * MOST_IN_ROW + k];
                if (number != NONE) {
                    if (!harms.takeOff(number, one, two)) {
                        return false;
                    }
                    one.takeAll(two);
                }
            }
            return to.takeAll(one);
        }
    }

    /** BYTES READ in a CODE as far as it went, and what the LETTERS cost so far. */
    private static final class Reading {
        private final Codes codes;
        private final Costs costs;
        private int reached;
        private int latest;
        private int sum;
        private int letters;

        Reading(Codes codes, Costs costs) {
            this.codes = codes;
            this.costs = costs;
            reached = 0;
            latest = BLANK;
            sum = 0;
            letters = 0;
        }

        int reached() {
            return reached;
        }

        int letters() {
            return letters;
        }

        void begin() {
            reached = 0;
            latest = BLANK;
            sum = 0;
            letters = 0;
        }

        void takeAll(Reading other) {
            reached = other.reached;
            latest = other.latest;
            sum = other.sum;
            letters = other.letters;
        }

        /** One LETTER more, if one is told by bytes that all stand ahead of end. */
        boolean step(int code, Numbers bytes, int end) {
            int found = codes.decode(code, bytes, reached, end);
            if (found == NONE) {
                return false;
            }
            int letter = Codes.letterIn(found);
            sum += costs.of(latest, letter);
            latest = letter;
            letters++;
            reached += Math.max(1, Codes.bytesIn(found));
            return true;
        }

        void goOn(int code, Numbers bytes, int end) {
            int most = end - reached;
            for (int k = 0; k < most; k++) {
                if (!step(code, bytes, end)) {
                    return;
                }
            }
        }

        int sumWith(int next) {
            return sum + costs.of(latest, next);
        }
    }

    /** The best parting of all that stands behind each place of a text, from the last place to the first. */
    private static final class Parting {
        private final Codes codes;
        private final Harms harms;
        private final Costs costs;
        private final Reading reading;
        private final Numbers bytes = new Numbers(LONGEST * MOST_PARTED);
        private final Numbers part = new Numbers(MOST_LETTERS);
        private final Numbers undone = new Numbers(MOST_LETTERS);
        private final int[] leastCost = new int[MOST_PARTED + 1];
        private final int[] spansFrom = new int[MOST_PARTED + 1];
        private final int[] endOf = new int[MOST_PARTED + 1];
        private final int[] harmOf = new int[MOST_PARTED + 1];
        private int price;

        Parting(Codes codes, Harms harms, Costs costs) {
            this.codes = codes;
            this.harms = harms;
            this.costs = costs;
            reading = new Reading(codes, costs);
            price = 0;
        }

        int spans() {
            return spansFrom[0];
        }

        void find(Numbers text, int priceOfEach) {
            price = priceOfEach;
            int n = Math.min(text.length(), MOST_PARTED);
            leastCost[n] = 0;
            spansFrom[n] = 0;
            for (int from = n - 1; from >= 0; from--) {
                leastCost[from] = NONE;
                tryAsItIs(from, text, n);
                for (int h = 0; h < harms.length(); h++) {
                    tryUndone(h, from, text, n);
                }
            }
        }

        private void tryAsItIs(int from, Numbers text, int n) {
            int sum = 0;
            int latest = BLANK;
            for (int i = from; i < n; i++) {
                int letter = text.get(i);
                sum += costs.of(latest, letter);
                latest = letter;
                offer(from, i + 1, NONE, sum + costs.of(letter, BLANK));
            }
        }

        /** One LETTER more is WRITTEN each time, and READ as far as it goes: a span is good if all is read. */
        private void tryUndone(int h, int from, Numbers text, int n) {
            reading.begin();
            bytes.cut(0);
            for (int i = from; i < n; i++) {
                if (!codes.encode(harms.readIn(h), text.get(i), bytes)) {
                    return;
                }
                reading.goOn(harms.writtenIn(h), bytes, bytes.length());
                if (reading.letters() > MOST_LETTERS) {
                    return;
                }
                if (reading.reached() == bytes.length()) {
                    offer(from, i + 1, h, reading.sumWith(BLANK));
                }
            }
        }

        /** Spans are offered by rising number of HARM, so among those alike the first one stays. */
        private void offer(int from, int end, int h, int costOfSpan) {
            if (from < 0 || end <= from || end > MOST_PARTED) {
                return;
            }
            int sum = costOfSpan + leastCost[end] + (spansFrom[end] > 0 ? price : 0);
            int spans = 1 + spansFrom[end];
            if (leastCost[from] == NONE || isBetter(from, sum, spans, end)) {
                leastCost[from] = sum;
                spansFrom[from] = spans;
                endOf[from] = end;
                harmOf[from] = h;
            }
        }

        private boolean isBetter(int from, int sum, int spans, int end) {
            if (sum != leastCost[from]) {
                return sum < leastCost[from];
            }
            if (spans != spansFrom[from]) {
                return spans < spansFrom[from];
            }
            return end > endOf[from];
        }

        /** All spans of the best parting; false if they have too many LETTERS together. */
        boolean build(Numbers text, Numbers to) {
            to.cut(0);
            int n = Math.min(text.length(), MOST_PARTED);
            int from = 0;
            while (from < n) {
                part.cut(0);
                for (int i = from; i < endOf[from]; i++) {
                    part.add(text.get(i));
                }
                if (harmOf[from] == NONE) {
                    undone.takeAll(part);
                } else if (!harms.takeOff(harmOf[from], part, undone)) {
                    return false;
                }
                if (!to.addAll(undone)) {
                    return false;
                }
                from = Math.max(from + 1, endOf[from]);
            }
            return true;
        }
    }

    /** CHOICES of the bytes that became MARKS, and what choice() tells of them. */
    private static final class Choices {
        private static final int MOST = 200;
        private static final int ROOM = LONGEST * MOST_WITH_MARKS;
        private final Codes codes;
        private final Costs costs;
        private final Numbers bytes = new Numbers(ROOM);
        private final int[] tailFirst = new int[ROOM + 1];
        private final int[] tailSum = new int[ROOM + 1];
        private final int[] tailLetters = new int[ROOM + 1];
        private final Reading head;
        private final Reading middle;
        private final Reading whole;
        private final int[] firstByte = new int[MOST];
        private final int[] secondByte = new int[MOST];
        private final int[] costOf = new int[MOST];
        private final int[] lengthOf = new int[MOST];
        private int kept;
        private int total;
        private boolean fresh;
        private int writtenIn;
        private int readIn;
        private int firstMark;
        private int lastMark;

        Choices(Codes codes, Costs costs) {
            this.codes = codes;
            this.costs = costs;
            head = new Reading(codes, costs);
            middle = new Reading(codes, costs);
            whole = new Reading(codes, costs);
            kept = 0;
            total = 0;
            fresh = false;
            writtenIn = NONE;
            readIn = NONE;
            firstMark = NONE;
            lastMark = NONE;
        }

        void forgetFreshness() {
            fresh = false;
        }

        boolean isFresh(int i) {
            return fresh && i >= 0 && i < kept;
        }

        int told(int i, int what) {
            if (i < 0 || i >= kept) {
                return NONE;
            }
            switch (what) {
                case 0: return firstByte[i];
                case 1: return secondByte[i];
                case 2: return costOf[i];
                case 3: return lengthOf[i];
                default: return NONE;
            }
        }

        /** The text WRITTEN in the CODE with one free byte for each MARK; the place of its FAULT, or NONE. */
        int layOut(int code, Numbers text) {
            bytes.cut(0);
            firstMark = NONE;
            lastMark = NONE;
            for (int i = 0; i < text.length(); i++) {
                if (text.get(i) == MARK) {
                    firstMark = lastMark;
                    lastMark = bytes.length();
                    bytes.add(0);
                } else if (!codes.encode(code, text.get(i), bytes)) {
                    return i;
                }
            }
            return NONE;
        }

        /** How many CHOICES there are for what was laid out. */
        int find(int a, int b) {
            writtenIn = a;
            readIn = b;
            kept = 0;
            total = 0;
            findTails();
            head.begin();
            if (firstMark == NONE) {
                head.goOn(a, bytes, lastMark);
                middle.takeAll(head);
                tryLast(NONE);
            } else {
                head.goOn(a, bytes, firstMark);
                for (int value = 0; value < BYTE_VALUES; value++) {
                    if (codes.letterAlone(b, value) == NONE) {
                        bytes.set(firstMark, value);
                        middle.takeAll(head);
                        middle.goOn(a, bytes, lastMark);
                        tryLast(value);
                    }
                }
            }
            fresh = true;
            return total;
        }

        /** What comes of the bytes behind the last MARK, READ from each place on: found once for all CHOICES. */
        private void findTails() {
            int end = Math.min(bytes.length(), ROOM);
            tailFirst[end] = BLANK;
            tailSum[end] = 0;
            tailLetters[end] = 0;
            for (int p = end - 1; p > lastMark && p >= 0; p--) {
                int found = codes.decode(writtenIn, bytes, p, end);
                int next = found == NONE ? NONE : p + Codes.bytesIn(found);
                if (next <= p || next > end || tailLetters[next] == NONE) {
                    tailLetters[p] = NONE;
                } else {
                    tailFirst[p] = Codes.letterIn(found);
                    tailSum[p] = tailSum[next] + costs.of(tailFirst[p], tailFirst[next]);
                    tailLetters[p] = tailLetters[next] + 1;
                }
            }
        }

        private void tryLast(int first) {
            for (int value = 0; value < BYTE_VALUES; value++) {
                if (codes.letterAlone(readIn, value) == NONE) {
                    bytes.set(lastMark, value);
                    if (comesBack()) {
                        tryWhole(first, value);
                    }
                }
            }
        }

        /**
         * All but the free bytes are whole LETTERS in b. So the text comes again just if neither of the free
         * bytes begins a LETTER with what stands behind it.
         */
        private boolean comesBack() {
            int end = bytes.length();
            return codes.decode(readIn, bytes, lastMark, end) == NONE
                && (firstMark == NONE || codes.decode(readIn, bytes, firstMark, end) == NONE);
        }

        private void tryWhole(int first, int last) {
            whole.takeAll(middle);
            for (int k = 0; k < ROOM && whole.reached() <= lastMark; k++) {
                if (!whole.step(writtenIn, bytes, bytes.length())) {
                    return;
                }
            }
            int tail = whole.reached();
            if (tail <= lastMark || tail > ROOM || tailLetters[tail] == NONE) {
                return;
            }
            int letters = whole.letters() + tailLetters[tail];
            if (letters <= MOST_LETTERS) {
                total++;
                keep(first, last, whole.sumWith(tailFirst[tail]) + tailSum[tail], letters);
            }
        }

        /** CHOICES come by rising bytes, so one stands behind all that cost no more. */
        private void keep(int first, int last, int sum, int letters) {
            if (kept == MOST && sum >= costOf[MOST - 1]) {
                return;
            }
            int place = Math.min(kept, MOST - 1);
            kept = place + 1;
            while (place > 0 && costOf[place - 1] > sum) {
                firstByte[place] = firstByte[place - 1];
                secondByte[place] = secondByte[place - 1];
                costOf[place] = costOf[place - 1];
                lengthOf[place] = lengthOf[place - 1];
                place--;
            }
            firstByte[place] = first == NONE ? last : first;
            secondByte[place] = first == NONE ? NONE : last;
            costOf[place] = sum;
            lengthOf[place] = letters;
        }

        /** What came of the CHOICE, made again: while it is fresh, nothing has changed that it hangs on. */
        boolean build(int i, Numbers text, Passage passage, Numbers to) {
            if (i < 0 || i >= kept || layOut(readIn, text) != NONE) {
                return false;
            }
            bytes.set(firstMark == NONE ? lastMark : firstMark, firstByte[i]);
            if (firstMark != NONE) {
                bytes.set(lastMark, secondByte[i]);
            }
            return passage.readExactly(writtenIn, bytes, to);
        }
    }
}
