import java.lang.reflect.Constructor;
import java.lang.reflect.Field;
import java.lang.reflect.Member;
import java.lang.reflect.Method;
import java.lang.reflect.Modifier;
import java.nio.file.Files;
import java.nio.file.Path;
import java.util.ArrayList;
import java.util.List;
import java.util.Set;
import java.util.TreeSet;
import java.util.regex.Matcher;
import java.util.regex.Pattern;

/**
 * What of LANGUAGE.md can be seen by looking at the class and at its source, and no more than its rules say; the
 * source's path is the argument.
 */
public final class LanguageTests {
    private static final String[] FACE = {
        "int feed(int,int,int,int,int)", "boolean end(int)", "int text()", "int read(int)",
        "int span(int,int,int,int,int)", "boolean blank(int)", "int count(int)", "int at(int)", "int size(int)",
        "int byteOf(int,int)", "int where()", "int harm(int,int)", "int rough(int,int)", "int undo(int,int)",
        "int safe(int,int)", "int back()", "int list(int,int)", "int unlist()", "int rows(int)", "int row(int,int)",
        "boolean cost(int,int,int)", "int worth()", "int mend(int,int)", "int parts(int)", "int choices(int,int)",
        "int choice(int,int)", "boolean chosen(int)"};
    /** Rule 11 says "some" of these three, so a few more are no fault. */
    private static final int SOME_TWELVE = 14;
    private static final int SOME_TWENTY = 24;
    private static final int SOME_SIXTY = 70;
    private static final String THROWN = "(IllegalState|IllegalArgument|IndexOutOfBounds|Arithmetic|UnsupportedOperation"
        + "|NoSuchElement|Runtime)Exception";
    private static int wrong = 0;
    private static int asked = 0;

    public static void main(String[] args) throws Exception {
        face();
        classesInside();
        methodsInside();
        String source = Files.readString(Path.of(args.length > 0 ? args[0] : "src/main/java/TextMender.java"));
        String bare = bare(source);
        library(bare);
        exceptions(source, bare);
        forms(bare);
        methodLengths(bare);
        System.out.println(asked + " rules asked, " + wrong + " broken");
        if (wrong != 0) {
            System.exit(1);
        }
    }

    private static void due(String what, boolean holds) {
        asked++;
        if (!holds) {
            wrong++;
            System.out.println("broken: " + what);
        }
    }

    // ---- rules 1, 2, 5, 11, by the class

    private static String told(Method m) {
        StringBuilder s = new StringBuilder(m.getReturnType().getSimpleName() + " " + m.getName() + "(");
        for (int i = 0; i < m.getParameterCount(); i++) {
            s.append(i > 0 ? "," : "").append(m.getParameterTypes()[i].getSimpleName());
        }
        return s.append(")").toString();
    }

    private static void face() {
        Class<?> c = TextMender.class;
        due("1 public and final", Modifier.isPublic(c.getModifiers()) && Modifier.isFinal(c.getModifiers()));
        Set<String> got = new TreeSet<>();
        for (Method m : c.getDeclaredMethods()) {
            if (Modifier.isPublic(m.getModifiers())) {
                got.add(told(m));
                due("1 of an object: " + m, !Modifier.isStatic(m.getModifiers()));
            }
        }
        due("1 the public methods are " + got, got.equals(new TreeSet<>(List.of(FACE))));
        due("1 one constructor", c.getDeclaredConstructors().length == 1);
        for (Constructor<?> k : c.getDeclaredConstructors()) {
            due("1 constructor", Modifier.isPublic(k.getModifiers()) && k.getParameterCount() == 0);
        }
        List<Member> members = new ArrayList<>(List.of(c.getDeclaredMethods()));
        members.addAll(List.of(c.getDeclaredFields()));
        for (Member m : members) {
            boolean shown = Modifier.isPublic(m.getModifiers()) || Modifier.isPrivate(m.getModifiers());
            due("1 public or private: " + m.getName(), shown || m.isSynthetic());
        }
        for (Field f : c.getDeclaredFields()) {
            due("1 no other public field: " + f, !Modifier.isPublic(f.getModifiers()) || f.getName().equals("NONE"));
        }
    }

    private static List<Class<?>> all() {
        List<Class<?>> all = new ArrayList<>(List.of(TextMender.class.getDeclaredClasses()));
        all.add(TextMender.class);
        return all;
    }

    private static void classesInside() {
        due("11 at most some twelve classes", all().size() <= SOME_TWELVE);
        for (Class<?> c : all()) {
            int m = c.getModifiers();
            boolean hidden = !Modifier.isPublic(m) && !Modifier.isProtected(m) && Modifier.isStatic(m);
            due("1 private or package-visible, and static: " + c, hidden || c == TextMender.class);
            int fields = 0;
            for (Field f : c.getDeclaredFields()) {
                boolean isStatic = Modifier.isStatic(f.getModifiers());
                fields += isStatic ? 0 : 1;
                due("5 static and final: " + f, !isStatic || Modifier.isFinal(f.getModifiers()));
            }
            due("11 some twenty fields: " + c + " has " + fields, fields <= SOME_TWENTY);
        }
    }

    private static void methodsInside() {
        Set<String> names = new TreeSet<>();
        for (String told : FACE) {
            names.add(told.substring(told.indexOf(' ') + 1, told.indexOf('(')));
        }
        for (Class<?> c : all()) {
            for (Method m : c.getDeclaredMethods()) {
                due("11 at most seven parameters: " + m, m.getParameterCount() <= 7);
                boolean isPrivate = Modifier.isPrivate(m.getModifiers());
                due("1 no private method bears a public name: " + m, !isPrivate || !names.contains(m.getName()));
            }
        }
    }

    // ---- the source without its comments and written texts

    private static String bare(String source) {
        Pattern left = Pattern.compile("//[^\\n]*|/\\*.*?\\*/|\"(\\\\.|[^\"\\\\])*\"|'(\\\\.|[^'\\\\])+'", Pattern.DOTALL);
        Matcher m = left.matcher(source);
        StringBuilder out = new StringBuilder();
        int from = 0;
        while (m.find()) {
            out.append(source, from, m.start());
            String gone = m.group();
            out.append(gone.startsWith("\"") ? "\"\"" : gone.startsWith("'") ? "' '" : gone.replaceAll("[^\\n]", ""));
            from = m.end();
        }
        return out.append(source.substring(from)).toString();
    }

    private static void dueNone(String rule, String bare, String pattern) {
        Matcher m = Pattern.compile(pattern).matcher(bare);
        boolean found = m.find();
        due(rule + (found ? ": " + m.group() : ""), !found);
    }

    // ---- rules 4, 6, 9, 13, by the source

    private static void library(String bare) {
        Matcher imports = Pattern.compile("(?m)^\\s*import\\s+([^;]+);").matcher(bare);
        while (imports.find()) {
            String name = imports.group(1).trim();
            due("4 import " + name, name.matches("java\\.util\\.(ArrayList|List|Arrays|Iterator|NoSuchElementException)"));
        }
        dueNone("no package line", bare, "(?m)^\\s*package\\s");
        dueNone("4 of System only arraycopy", bare, "\\bSystem\\s*\\.\\s*(?!arraycopy\\b)\\w+");
        dueNone("4 none whose name ends in Exact", bare, "\\w+Exact\\s*\\(");
        dueNone("13 no clock, chance, thread", bare, "\\b(Random|Thread|Runtime|LocalDate|Instant|File|Files|Path)\\b");
    }

    private static void exceptions(String source, String bare) {
        dueNone("6 only these are thrown", bare, "\\bthrow\\b(?!\\s+new\\s+" + THROWN + "\\s*\\((\"\")?\\))[^;]*;");
        dueNone("6 no finally, synchronized, assert", bare, "\\b(finally|synchronized|assert)\\b");
        dueNone("6 no try with resources", bare, "\\btry\\s*\\(");
        dueNone("6 only these are caught", bare, "\\bcatch\\s*\\(\\s*(?!(final\\s+)?" + THROWN + "\\b)[^)]*\\)");
        dueNone("6 no exception classes", bare, "\\bextends\\s+\\w*(Exception|Error|Throwable)\\b");
        dueNone("4 signs of texts are 1 to 127", source, "\"[^\"\\n]*[^\\x01-\\x7f][^\"\\n]*\"");
    }

    private static void forms(String bare) {
        dueNone("2 no method reference", bare, "::");
        dueNone("5 no static initialiser block", bare, "\\bstatic\\s*\\{");
        for (String line : bare.split("\\n")) {
            boolean ofSwitch = line.trim().startsWith("case ") || line.trim().startsWith("default");
            due("2 no lambda: " + line, !line.contains("->") || ofSwitch);
        }
    }

    private static void methodLengths(String bare) {
        String[] lines = bare.split("\\n", -1);
        Pattern head = Pattern.compile("^\\s+(?!(if|for|while|switch|catch|else|do|return|new|try|\\})\\b)"
            + "[\\w<>\\[\\], ]+\\([^;=]*\\)\\s*(throws [\\w, ]+)?\\{\\s*$");
        for (int i = 0; i < lines.length; i++) {
            if (head.matcher(lines[i]).find()) {
                int end = i;
                int open = 1;
                while (open > 0 && end + 1 < lines.length) {
                    end++;
                    open += lines[end].replaceAll("[^{]", "").length() - lines[end].replaceAll("[^}]", "").length();
                }
                due("11 some sixty lines, from " + (i + 1), end - i <= SOME_SIXTY);
            }
        }
    }
}
