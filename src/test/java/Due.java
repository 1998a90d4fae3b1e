import java.util.Arrays;
import java.util.NoSuchElementException;

/** What the tests of single answers share: texts put into an object, answers asked, and the count of wrong ones. */
abstract class Due {
    static final int NONE = TextMender.NONE;
    static final int MARK = 65533;
    static final int[] NO_CODES = {-1, 6, Integer.MIN_VALUE, Integer.MAX_VALUE};
    private static String sentence = "";
    private static int sentences = 0;
    private static int asked = 0;
    private static int wrong = 0;

    /** A call, to be made on one object and on another one like it; a boolean counts 1 or 0. */
    interface Call {
        long on(TextMender x);
    }

    /** The words of the document that the next answers are asked for. */
    static void says(String place, String words) {
        sentence = place + " \"" + words + "\": ";
        sentences++;
    }

    static void due(String what, long got, long want) {
        asked++;
        if (got != want) {
            wrong++;
            System.out.println(sentence + what + ": answered " + got + ", due is " + want);
        }
    }

    static void due(String what, boolean got, boolean want) {
        due(what, got ? 1 : 0, want ? 1 : 0);
    }

    static void tellAndEnd() {
        System.out.println((sentences > 0 ? sentences + " sentences, " : "") + asked + " answers asked, " + wrong + " wrong");
        if (wrong != 0) {
            System.exit(1);
        }
    }

    static void put(TextMender x, int... numbers) {
        for (int i = 0; i < numbers.length; i += 5) {
            int[] five = new int[5];
            for (int k = 0; k < 5 && i + k < numbers.length; k++) {
                five[k] = numbers[i + k];
            }
            x.feed(five[0], five[1], five[2], five[3], five[4]);
        }
        x.end(numbers.length);
    }

    static int[] signs(String s) {
        return s.chars().toArray();
    }

    static int[] same(int n, int number) {
        int[] out = new int[n];
        Arrays.fill(out, number);
        return out;
    }

    static int[] joined(int[] head, int... tail) {
        int[] out = Arrays.copyOf(head, head.length + tail.length);
        System.arraycopy(tail, 0, out, head.length, tail.length);
        return out;
    }

    static TextMender with(int... letters) {
        TextMender x = new TextMender();
        put(x, letters);
        due("text() of " + letters.length, x.text(), letters.length);
        return x;
    }

    static TextMender with(String s) {
        return with(signs(s));
    }

    static TextMender withTape(int... numbers) {
        TextMender x = new TextMender();
        put(x, numbers);
        return x;
    }

    static void dueText(String what, TextMender x, int... want) {
        due(what + ", length", x.count(0), want.length);
        for (int i = 0; i < want.length && i < x.count(0); i++) {
            due(what + ", letter " + i, x.at(i), want[i]);
        }
    }

    static void dueText(String what, TextMender x, String want) {
        dueText(what, x, signs(want));
    }

    static void dueRead(int code, int want, int fault, int... bytes) {
        TextMender x = withTape(bytes);
        due("read(" + code + ") of " + Arrays.toString(bytes), x.read(code), want);
        due("where() of that", x.where(), fault);
    }

    static void dueNoLetter(TextMender x, int i) {
        boolean thrown = false;
        try {
            x.at(i);
        } catch (NoSuchElementException e) {
            thrown = true;
        }
        due("at(" + i + ") throws", thrown, true);
    }
}
