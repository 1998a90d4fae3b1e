import java.util.ArrayList;
import java.util.List;

/**
 * What an object did before leaves nothing behind but what the document says: each call on a text that came behind
 * others, or that was taken back to, answers as on an object that never had another one.
 */
public final class AgainTests extends Due {
    private static final int[][] TEXTS = {
        {}, {97}, {99, 97, 102, 233}, {110, 195, 169, 32, 110, 233}, signs("&#233;a&#38"), {97, MARK}, {MARK, MARK, 98},
        joined(same(20, 97), MARK, 233, 98), joined(new int[] {233, MARK}, same(20, 97)), same(59, '&'), same(61, 97),
        joined(same(100, 97), MARK), same(151, 233), same(300, 65535)};
    private static final String[] NAMES = {"harm(2, 1)", "harm(3, 4)", "rough(2, 0)", "rough(3, 5)", "undo(2, 1)",
        "undo(0, 3)", "rows(1)", "rows(3)", "mend(3, 1)", "parts(0)", "parts(60)", "choices(1, 0)", "choices(4, 2)",
        "choices(3, 5)", "size(3)", "byteOf(2, 3)", "worth()", "safe(2, 4)"};

    public static void main(String[] args) {
        for (int[] text : TEXTS) {
            for (int[] other : TEXTS) {
                for (int call = 0; call < NAMES.length; call++) {
                    afterAnother(text, other, call);
                    afterBack(text, other, call);
                }
            }
        }
        tellAndEnd();
    }

    private static int make(TextMender x, int call) {
        switch (call) {
            case 0: return x.harm(2, 1);
            case 1: return x.harm(3, 4);
            case 2: return x.rough(2, 0);
            case 3: return x.rough(3, 5);
            case 4: return x.undo(2, 1);
            case 5: return x.undo(0, 3);
            case 6: return x.rows(1);
            case 7: return x.rows(3);
            case 8: return x.mend(3, 1);
            case 9: return x.parts(0);
            case 10: return x.parts(60);
            case 11: return x.choices(1, 0);
            case 12: return x.choices(4, 2);
            case 13: return x.choices(3, 5);
            case 14: return x.size(3);
            case 15: return x.byteOf(2, 3);
            case 16: return x.worth();
            default: return x.safe(2, 4);
        }
    }

    private static TextMender told() {
        TextMender x = new TextMender();
        x.list(2, 1);
        x.list(0, 3);
        x.span(4, 0, 128, 0, 1);
        x.span(4, 200, 2, 2000, 1);
        x.span(5, 0, 59, 0, 1);
        x.cost(97, 97, 20);
        x.cost(38, 38, 100);
        return x;
    }

    private static void take(TextMender x, int[] text) {
        put(x, text);
        x.text();
    }

    /** The answer, and all that it made of the text, of the told rows (of rows()) and the told CHOICES (of choices()). */
    private static List<Integer> answers(TextMender x, int call) {
        List<Integer> out = new ArrayList<>();
        out.add(make(x, call));
        out.add(x.where());
        for (int what : new int[] {0, 1, 2, 4, 5, 6, 7}) {
            out.add(x.count(what));
        }
        for (int i = 0; i < x.count(0); i += 1 + i / 20) {
            out.add(x.at(i));
        }
        for (int i = 0; i < 6 && NAMES[call].startsWith("rows"); i++) {
            for (int what = 0; what <= 5; what++) {
                out.add(x.row(i, what));
            }
        }
        for (int i = 0; i < 6 && NAMES[call].startsWith("choices") && out.get(0) != NONE; i++) {
            for (int what = 0; what <= 3; what++) {
                out.add(x.choice(i, what));
            }
        }
        if (NAMES[call].startsWith("choices")) {
            out.add(x.chosen(1) ? 1 : 0);
            out.add(x.worth());
        }
        return out;
    }

    private static List<Integer> alone(int[] text, int call) {
        TextMender x = told();
        take(x, text);
        return answers(x, call);
    }

    private static String about(int[] text, int[] other, int call) {
        return NAMES[call] + " of a text of " + text.length + " behind one of " + other.length;
    }

    private static void afterAnother(int[] text, int[] other, int call) {
        TextMender x = told();
        take(x, other);
        make(x, call);
        take(x, text);
        due(about(text, other, call), answers(x, call).equals(alone(text, call)), true);
    }

    private static void afterBack(int[] text, int[] other, int call) {
        TextMender x = told();
        take(x, text);
        take(x, other);
        x.back();
        due(about(text, other, call) + ", taken back", answers(x, call).equals(alone(text, call)), true);
    }
}
