import java.util.ArrayList;
import java.util.List;
import java.util.NoSuchElementException;
import java.util.Random;

/** Long runs of calls by fixed seeds: TextMender must answer each call as NaiveMender does. */
public final class ModelTests {
    private static final int[] ODD = {Integer.MIN_VALUE, -65536, -256, -2, -1, 0, 1, 3, 6, 60, 100, 127, 128, 200, 255,
        256, 257, 300, 900, 901, 1001, 55295, 55296, 57343, 57344, 65533, 65535, 65536, 100001, Integer.MAX_VALUE};
    private static final String[] PIECES = {"cafe", "Uber", "a", "b", " ", "n", "12", "&", "#", ";", "&#", "&#233;",
        "&#38;", "&#038;", "&#65533;", "&#97;", "38;", "x\u00e9", "\u00c3\u00a9", "\u00e9", "\u00c2", "\u00a9", "\u00c3",
        "\u0411\u0430", "\u03a9\u03bc", "\u20ac", "\u00e2\u0082\u00ac", "\ufffd", "\u007f\u0080\u07ff\u0800", "\uffff",
        "\ue000\ud7ff", "\u00d7\u00f7\u00bf\u00c0", "\u024f\u0250\u036f\u0370\u052f\u0530", "\u0000"};
    private static int wrong = 0;
    private static int calls = 0;

    private final Random random;
    private final TextMender real = new TextMender();
    private final NaiveMender naive = new NaiveMender();
    private final long seed;
    private int used = 0;

    private ModelTests(long seed) {
        this.seed = seed;
        random = new Random(seed);
    }

    public static void main(String[] args) {
        long from = args.length > 1 ? Long.parseLong(args[1]) : 1;
        long to = args.length > 2 ? Long.parseLong(args[2]) : 400;
        for (long seed = from; seed <= to && wrong < 20; seed++) {
            new ModelTests(seed).run();
        }
        for (long seed = 1; seed <= 36 && wrong < 20; seed++) {
            new ModelTests(seed).allChoices();
            new ModelTests(seed).toldChoices();
            new ModelTests(seed).tiedParts();
        }
        for (long seed = 1; seed <= 6 && wrong < 20; seed++) {
            new ModelTests(seed).longParts();
        }
        System.out.println(calls + " calls compared, " + wrong + " wrong");
        if (wrong != 0) {
            System.exit(1);
        }
    }

    private void same(String call, long got, long due) {
        used++;
        // what an object answers after its 512th call is free
        if (used > 512) {
            return;
        }
        calls++;
        if (got != due) {
            wrong++;
            System.out.println("seed " + seed + " call " + used + ": " + call + " answered " + got + ", due is " + due);
        }
    }

    private static long of(boolean b) {
        return b ? 1 : 0;
    }

    private void where() {
        if (!naive.whereOpen()) {
            same("where()", real.where(), naive.where());
        }
    }

    private void row(int i, int what) {
        if (!naive.rowOpen(what)) {
            same("row(" + i + ", " + what + ")", real.row(i, what), naive.row(i, what));
        }
    }

    private void choice(int i, int what) {
        if (!naive.choiceOpen(what)) {
            same("choice(" + i + ", " + what + ")", real.choice(i, what), naive.choice(i, what));
        }
    }

    private void chosen(int i) {
        if (!naive.chosenOpen(i)) {
            same("chosen(" + i + ")", of(real.chosen(i)), of(naive.chosen(i)));
        }
    }

    /** Whether more than 300 are gone from THE TAPE when they were refused is not said: they are taken off. */
    private void emptyTape(int had) {
        if (had > 300) {
            same("end(0)", of(real.end(0)), of(naive.end(0)));
        }
    }

    private void run() {
        int mood = random.nextInt(8);
        while (used < 490 && wrong == 0) {
            step(mood);
            where();
            if (random.nextInt(4) == 0) {
                look();
            }
        }
    }

    /** Costs of all kinds, so that CHOICES come in an order that has little to do with that of their bytes. */
    private void allChoices() {
        for (int k = 0; k < 220; k++) {
            int x = 120 + random.nextInt(136);
            int y = random.nextInt(3) == 0 ? 32 : 120 + random.nextInt(136);
            int v = random.nextInt(30);
            same("cost", of(real.cost(x, y, v)), of(naive.cost(x, y, v)));
        }
        feedAll(List.of(97, 65533, 65533));
        same("text()", real.text(), naive.text());
        int b = random.nextInt(3) * 2;
        int a = 1 + random.nextInt(2);
        same("choices(" + a + ", " + b + ")", real.choices(a, b), naive.choices(a, b));
        for (int i = (int) (seed % 3); i <= 200; i += 3) {
            for (int what = 0; what < 4; what++) {
                choice(i, what);
            }
        }
    }

    private void toldSpans(int from4, int n4, int letter4, int from5, int n5, int letter5) {
        span(4, from4, n4, letter4, 1);
        span(5, from5, n5, letter5, 1);
    }

    private void tellCost(int x, int y, int v) {
        same("cost(" + x + ", " + y + ", " + v + ")", of(real.cost(x, y, v)), of(naive.cost(x, y, v)));
    }

    /** Codes that have much, but not all, so that a MARK may be there for many reasons and a FAULT be anywhere. */
    private void toldChoices() {
        toldSpans(0, 128, 0, 0, 38, 0);
        toldSpans(200, 2, 2000, 39, 20, 39);
        toldSpans(195, 1, 233, 60, 120, 60);
        while (used < 450 && wrong == 0) {
            List<Integer> text = new ArrayList<>();
            int n = 1 + random.nextInt(random.nextInt(4) == 0 ? 30 : 6);
            int kinds = 2 + random.nextInt(11);
            for (int i = 0; i < n; i++) {
                text.add((int) "ab&#233;\u00e9\u07d0\u07d1\u00c3".charAt(random.nextInt(kinds)));
            }
            for (int k = 1 + random.nextInt(n > 9 ? 1 : 2); k > 0; k--) {
                text.add(random.nextInt(text.size() + 1), 65533);
            }
            takeText(text);
            if (random.nextInt(4) == 0) {
                same("back()", real.back(), naive.back());
            }
            if (naive.count(0) > 10 && naive.count(4) == 2) {
                continue;
            }
            int a = 1 + random.nextInt(5);
            int b = random.nextInt(3) == 0 ? random.nextInt(6) : 2 + random.nextInt(4);
            same("choices(" + a + ", " + b + ")", real.choices(a, b), naive.choices(a, b));
            where();
            choiceAndChosen();
        }
    }

    /** Few kinds of costs, so that many partings are equal. */
    private void tiedParts() {
        int[] values = {0, 1, 9, 10, 20, 200};
        int[] all = {32, 1, 2, 3, 4, 1001, 1002, 1003, 1004, 1011, 1012, 1013, 1014};
        toldSpans(1, 4, 1001, 1, 4, 1011);
        same("list(4, 1)", real.list(4, 1), naive.list(4, 1));
        same("list(5, 1)", real.list(5, 1), naive.list(5, 1));
        int kinds = 2 + random.nextInt(5);
        for (int k = 0; k < 100; k++) {
            tellCost(all[random.nextInt(all.length)], all[random.nextInt(all.length)], values[random.nextInt(kinds)]);
        }
        while (used < 490 && wrong == 0) {
            List<Integer> text = new ArrayList<>();
            for (int i = 1 + random.nextInt(6); i > 0; i--) {
                text.add(1 + random.nextInt(4));
            }
            takeText(text);
            tellCost(all[random.nextInt(all.length)], all[random.nextInt(all.length)], values[random.nextInt(kinds)]);
            int price = random.nextInt(3) * random.nextInt(10);
            same("parts(" + price + ")", real.parts(price), naive.parts(price));
            look();
        }
    }

    /** Spans that come to about 300 LETTERS, alone and together. */
    private void longParts() {
        int[] signs = {32, '&', '#', '2', '3', '8', ';', 233};
        same("list(0, 3)", real.list(0, 3), naive.list(0, 3));
        for (int x : signs) {
            for (int y : signs) {
                if (random.nextInt(3) != 0) {
                    tellCost(x, y, random.nextInt(4));
                }
            }
        }
        for (int k = 0; k < 8 && wrong == 0; k++) {
            List<Integer> text = new ArrayList<>();
            for (int i = 47 + random.nextInt(14); i > 0; i--) {
                text.add(random.nextInt(3) == 0 ? 233 : 38);
            }
            takeText(text);
            tellCost('&', '&', random.nextInt(201));
            tellCost(233, '&', random.nextInt(201));
            int price = random.nextInt(2) * random.nextInt(1001);
            same("parts(" + price + ")", real.parts(price), naive.parts(price));
            look();
        }
    }

    private int odd() {
        return ODD[random.nextInt(ODD.length)];
    }

    private int code() {
        return random.nextInt(25) == 0 ? odd() : random.nextInt(6);
    }

    private int upTo(int most) {
        return random.nextInt(25) == 0 ? odd() : random.nextInt(most + 1);
    }

    private int letter() {
        if (random.nextInt(25) == 0) {
            return odd();
        }
        String piece = PIECES[random.nextInt(PIECES.length)];
        return random.nextInt(5) == 0 ? random.nextInt(65536) : piece.charAt(random.nextInt(piece.length()));
    }

    private void look() {
        int n = naive.count(0);
        for (int what = -1; what <= 8; what++) {
            same("count(" + what + ")", real.count(what), naive.count(what));
        }
        same("worth()", real.worth(), naive.worth());
        int start = random.nextInt(Math.max(1, n));
        for (int i = start - 1; i <= start + 8; i++) {
            same("at(" + i + ")", answerAt(i, true), answerAt(i, false));
        }
    }

    private long answerAt(int i, boolean ofReal) {
        try {
            return ofReal ? real.at(i) : naive.at(i);
        } catch (NoSuchElementException e) {
            return Long.MIN_VALUE;
        }
    }

    private void step(int mood) {
        switch (random.nextInt(mood == 7 ? 14 : 26)) {
            case 0:
            case 1:
                tellText(mood);
                break;
            case 2:
                tellBytes();
                break;
            case 3:
                tellCode();
                break;
            case 4:
            case 5:
                harm();
                break;
            case 6:
                rough();
                break;
            case 7:
                undo();
                break;
            case 8:
                same("back()", real.back(), naive.back());
                break;
            case 9:
            case 10:
                tellList();
                break;
            case 11:
            case 12:
                rows();
                break;
            case 13:
                row();
                break;
            case 14:
            case 15:
                cost();
                break;
            case 16:
            case 17:
                mend();
                break;
            case 18:
            case 19:
                parts();
                break;
            case 20:
            case 21:
            case 22:
                markedText();
                break;
            case 23:
                choiceAndChosen();
                break;
            case 24:
                sizes();
                break;
            default:
                oddCalls();
                break;
        }
    }

    private List<Integer> someText(int mood) {
        List<Integer> out = new ArrayList<>();
        int pieces = random.nextInt(12) == 0 ? 100 : random.nextInt(mood == 6 ? 3 : 9);
        int kinds = random.nextInt(4) == 0 ? PIECES.length : 2 + random.nextInt(PIECES.length - 1);
        for (int i = 0; i < pieces; i++) {
            for (char c : PIECES[random.nextInt(kinds)].toCharArray()) {
                out.add((int) c);
            }
        }
        return out;
    }

    private void feedAll(List<Integer> numbers) {
        for (int i = 0; i < numbers.size(); i += 5) {
            int[] five = new int[5];
            for (int k = 0; k < 5; k++) {
                five[k] = i + k < numbers.size() ? numbers.get(i + k) : random.nextInt(300);
            }
            same("feed", real.feed(five[0], five[1], five[2], five[3], five[4]),
                naive.feed(five[0], five[1], five[2], five[3], five[4]));
        }
        int n = random.nextInt(30) == 0 ? odd() : numbers.size();
        same("end(" + n + ")", of(real.end(n)), of(naive.end(n)));
    }

    private void tellText(int mood) {
        List<Integer> text = someText(mood);
        if (!text.isEmpty() && random.nextInt(12) == 0) {
            text.set(random.nextInt(text.size()), odd());
        }
        takeText(text);
    }

    private void takeText(List<Integer> text) {
        feedAll(text);
        int had = naive.count(1);
        same("text()", real.text(), naive.text());
        emptyTape(had);
    }

    private void tellBytes() {
        List<Integer> bytes = new ArrayList<>();
        int kind = random.nextInt(4);
        int code = random.nextInt(6);
        if (kind == 0) {
            int n = random.nextInt(10) == 0 ? 300 + random.nextInt(30) : random.nextInt(20);
            for (int i = 0; i < n; i++) {
                bytes.add(random.nextInt(i > 300 ? 256 : 128));
            }
        } else if (kind == 1) {
            for (int i = random.nextInt(6); i > 0; i--) {
                bytes.add(random.nextInt(257));
            }
        } else {
            StringBuilder s = new StringBuilder();
            for (int l : someText(0)) {
                s.append((char) l);
            }
            for (byte b : s.toString().getBytes(java.nio.charset.StandardCharsets.UTF_8)) {
                bytes.add(b & 255);
            }
            if (kind == 2 && !bytes.isEmpty()) {
                bytes.remove(random.nextInt(bytes.size()));
            }
            code = random.nextInt(4) == 0 ? code : 2;
        }
        if (!bytes.isEmpty() && random.nextInt(20) == 0) {
            bytes.set(random.nextInt(bytes.size()), odd());
        }
        feedAll(bytes);
        int asked = random.nextInt(25) == 0 ? odd() : code;
        int had = naive.count(1);
        same("read(" + asked + ")", real.read(asked), naive.read(asked));
        emptyTape(had);
    }

    private void span(int code, int from, int n, int letter, int step) {
        // of one byte the step is not used: whether it is looked at is not said
        if (n == 1 && (step < -255 || step > 255)) {
            return;
        }
        same("span(" + code + ", " + from + ", " + n + ", " + letter + ", " + step + ")",
            real.span(code, from, n, letter, step), naive.span(code, from, n, letter, step));
    }

    private void tellCode() {
        int code = 4 + random.nextInt(2);
        switch (random.nextInt(6)) {
            case 0:
                same("blank", of(real.blank(code)), of(naive.blank(code)));
                break;
            case 1:
                span(code, 0, 128, 0, 1);
                span(code, 128, 1 + random.nextInt(128), random.nextBoolean() ? 1024 : 128, 1);
                break;
            case 2:
                span(code, random.nextInt(256), 1 + random.nextInt(5), letter(), random.nextInt(7) - 3);
                break;
            case 3:
                span(code, 255, 1, 65533, 0);
                break;
            case 4:
                span(code, 0, 256, 128, 255);
                break;
            default:
                span(random.nextInt(9) == 0 ? odd() : code, upTo(255), upTo(20), letter(), upTo(510) - 255);
                break;
        }
    }

    private void harm() {
        int a = code();
        int b = code();
        same("harm(" + a + ", " + b + ")", real.harm(a, b), naive.harm(a, b));
    }

    private void rough() {
        int a = code();
        int b = code();
        int got = real.rough(a, b);
        int due = naive.rough(a, b);
        same("rough(" + a + ", " + b + ")", naive.roughOpen() && got != NaiveMender.NONE ? due : got, due);
    }

    private void undo() {
        int a = code();
        int b = code();
        same("undo(" + a + ", " + b + ")", real.undo(a, b), naive.undo(a, b));
    }

    private void tellList() {
        if (random.nextInt(9) == 0) {
            same("unlist()", real.unlist(), naive.unlist());
            return;
        }
        int[] likely = {21, 30, 31, 20, 3, 12, 42, 24, 14, 45};
        int pick = likely[random.nextInt(likely.length)];
        boolean any = random.nextInt(3) == 0;
        int a = any ? code() : pick / 10;
        int b = any ? code() : pick % 10;
        same("list(" + a + ", " + b + ")", real.list(a, b), naive.list(a, b));
    }

    private void rows() {
        int n = random.nextInt(8) == 0 ? odd() : 1 + random.nextInt(3);
        if (naive.count(0) * naive.count(2) > 300 && n == 3) {
            n = 2;
        }
        same("rows(" + n + ")", real.rows(n), naive.rows(n));
    }

    private void row() {
        int i = upTo(40);
        for (int what = -1; what <= 6; what++) {
            row(i, what);
        }
    }

    private void cost() {
        int x = letter();
        int y = letter();
        if (naive.count(0) > 1 && random.nextBoolean()) {
            int i = random.nextInt(naive.count(0) - 1);
            x = naive.at(i);
            y = naive.at(i + 1);
        }
        int v = random.nextInt(9) == 0 ? odd() : random.nextInt(3) == 0 ? random.nextInt(201) : random.nextInt(10);
        if (random.nextInt(4) == 0) {
            x = 32;
        }
        if (random.nextInt(4) == 0) {
            y = 32;
        }
        tellCost(x, y, v);
    }

    private void mend() {
        int n = random.nextInt(8) == 0 ? odd() : 1 + random.nextInt(naive.count(0) * naive.count(2) > 300 ? 2 : 3);
        int gain = random.nextInt(8) == 0 ? odd() : 1 + random.nextInt(random.nextBoolean() ? 3 : 100);
        same("mend(" + n + ", " + gain + ")", real.mend(n, gain), naive.mend(n, gain));
    }

    private void parts() {
        if (naive.count(0) > 25 && naive.count(0) <= 60 && random.nextInt(10) != 0) {
            return;
        }
        int price = upTo(random.nextBoolean() ? 3 : random.nextInt(1001));
        same("parts(" + price + ")", real.parts(price), naive.parts(price));
    }

    private void markedText() {
        List<Integer> text = someText(6);
        text.removeIf(l -> l == 65533);
        int b = random.nextInt(6);
        if (random.nextInt(3) != 0) {
            text.removeIf(l -> l > 127);
        }
        for (int k = random.nextInt(9) == 0 ? 3 : 1 + random.nextInt(2); k > 0; k--) {
            text.add(random.nextInt(text.size() + 1), 65533);
        }
        if (text.size() > 12 && text.size() <= 100 && random.nextInt(4) != 0) {
            text = text.subList(0, 12);
        }
        takeText(text);
        int a = code();
        b = random.nextInt(20) == 0 ? odd() : b;
        same("choices(" + a + ", " + b + ")", real.choices(a, b), naive.choices(a, b));
        choiceAndChosen();
        if (random.nextInt(3) == 0) {
            choiceAndChosen();
        }
    }

    private void choiceAndChosen() {
        int i = upTo(random.nextBoolean() ? 205 : 6);
        for (int what = -1; what <= 4; what++) {
            choice(i, what);
        }
        if (random.nextInt(3) == 0) {
            oddCalls();
        }
        if (random.nextInt(3) != 0) {
            chosen(upTo(6));
            look();
        }
    }

    private void sizes() {
        int code = code();
        same("size(" + code + ")", real.size(code), naive.size(code));
        int i = random.nextInt(4) == 0 ? odd() : random.nextInt(Math.max(1, naive.count(0) * 2));
        same("byteOf(" + code + ", " + i + ")", real.byteOf(code, i), naive.byteOf(code, i));
        if (random.nextInt(6) == 0) {
            int a = code();
            same("safe(" + a + ", " + code + ")", real.safe(a, code), naive.safe(a, code));
        }
    }

    /** Calls that are mostly refused or change nothing: they must leave all else alone. */
    private void oddCalls() {
        int x = odd();
        int y = odd();
        int z = odd();
        switch (random.nextInt(14)) {
            case 0:
                same("end(" + x + ")", of(real.end(x)), of(naive.end(x)));
                break;
            case 1:
                same("harm(" + x + ", " + y + ")", real.harm(x, y), naive.harm(x, y));
                break;
            case 2:
                same("list(" + x + ", " + y + ")", real.list(x, y), naive.list(x, y));
                break;
            case 3:
                same("rows(" + x + ")", real.rows(x), naive.rows(x));
                break;
            case 4:
                same("cost(" + x + ", " + y + ", " + z + ")", of(real.cost(x, y, z)), of(naive.cost(x, y, z)));
                break;
            case 5:
                same("choices(" + x + ", " + y + ")", real.choices(x, y), naive.choices(x, y));
                break;
            case 6:
                same("mend(" + x + ", " + y + ")", real.mend(x, y), naive.mend(x, y));
                break;
            case 7:
                same("blank(" + x + ")", of(real.blank(x)), of(naive.blank(x)));
                break;
            case 8:
                span(random.nextBoolean() ? 4 : x, x, y, z, odd());
                break;
            case 9:
                same("byteOf(" + x + ", " + y + ")", real.byteOf(x, y), naive.byteOf(x, y));
                break;
            case 10:
                row(x, y);
                break;
            case 11:
                choice(x, y);
                break;
            case 12:
                chosen(x);
                break;
            default:
                same("undo(" + x + ", " + y + ")", real.undo(x, y), naive.undo(x, y));
                break;
        }
    }
}
