import java.lang.reflect.Constructor;
import java.lang.reflect.Field;
import java.lang.reflect.Member;
import java.lang.reflect.Method;
import java.lang.reflect.Modifier;
import java.nio.file.Files;
import java.nio.file.Path;
import java.util.ArrayList;
import java.util.List;
import java.util.Set;
import java.util.TreeSet;

/** What of LANGUAGE.md can be seen by looking at the class and at its source; the source's path is the argument. */
public final class LanguageTests {
    private static final String[] FACE = {
        "int feed(int,int,int,int,int)", "boolean end(int)", "int text()", "int read(int)",
        "int span(int,int,int,int,int)", "boolean blank(int)", "int count(int)", "int at(int)", "int size(int)",
        "int byteOf(int,int)", "int where()", "int harm(int,int)", "int rough(int,int)", "int undo(int,int)",
        "int safe(int,int)", "int back()", "int list(int,int)", "int unlist()", "int rows(int)", "int row(int,int)",
        "boolean cost(int,int,int)", "int worth()", "int mend(int,int)", "int parts(int)", "int choices(int,int)",
        "int choice(int,int)", "boolean chosen(int)"};
    private static final String[] FORBIDDEN = {"->", "::", "catch", "try ", "finally", "synchronized", "assert ",
        "static {", "package ", "System.out", "Exact(", "Random", "Thread", "@Override", "instanceof", "double", "float"};
    private static int wrong = 0;
    private static int asked = 0;

    public static void main(String[] args) throws Exception {
        face();
        fieldsAndMethods();
        source(Path.of(args.length > 0 ? args[0] : "src/main/java/TextMender.java"));
        System.out.println(asked + " rules asked, " + wrong + " broken");
        if (wrong != 0) {
            System.exit(1);
        }
    }

    private static void due(String what, boolean holds) {
        asked++;
        if (!holds) {
            wrong++;
            System.out.println("broken: " + what);
        }
    }

    private static String told(Method m) {
        StringBuilder s = new StringBuilder(m.getReturnType().getSimpleName() + " " + m.getName() + "(");
        for (int i = 0; i < m.getParameterCount(); i++) {
            s.append(i > 0 ? "," : "").append(m.getParameterTypes()[i].getSimpleName());
        }
        return s.append(")").toString();
    }

    private static void face() {
        Class<?> c = TextMender.class;
        due("public and final", Modifier.isPublic(c.getModifiers()) && Modifier.isFinal(c.getModifiers()));
        Set<String> got = new TreeSet<>();
        for (Method m : c.getDeclaredMethods()) {
            if (Modifier.isPublic(m.getModifiers())) {
                got.add(told(m));
            }
        }
        due("the public methods are " + got, got.equals(new TreeSet<>(List.of(FACE))));
        for (Constructor<?> k : c.getDeclaredConstructors()) {
            due("constructor", Modifier.isPublic(k.getModifiers()) && k.getParameterCount() == 0);
        }
        List<Member> members = new ArrayList<>(List.of(c.getDeclaredMethods()));
        members.addAll(List.of(c.getDeclaredFields()));
        for (Member m : members) {
            boolean shown = Modifier.isPublic(m.getModifiers()) || Modifier.isPrivate(m.getModifiers());
            due("public or private: " + m.getName(), shown);
        }
        for (Field f : c.getDeclaredFields()) {
            due("no other public field: " + f, !Modifier.isPublic(f.getModifiers()) || f.getName().equals("NONE"));
        }
    }

    private static void fieldsAndMethods() {
        Set<String> names = new TreeSet<>();
        for (String told : FACE) {
            names.add(told.substring(told.indexOf(' ') + 1, told.indexOf('(')));
        }
        List<Class<?>> all = new ArrayList<>(List.of(TextMender.class.getDeclaredClasses()));
        for (Class<?> c : all) {
            due("static: " + c, Modifier.isStatic(c.getModifiers()) && !Modifier.isPublic(c.getModifiers()));
        }
        all.add(TextMender.class);
        due("at most twelve classes", all.size() <= 12);
        for (Class<?> c : all) {
            int fields = 0;
            for (Field f : c.getDeclaredFields()) {
                boolean isStatic = Modifier.isStatic(f.getModifiers());
                fields += isStatic ? 0 : 1;
                due("static and final: " + f, !isStatic || Modifier.isFinal(f.getModifiers()));
            }
            due("at most twenty fields: " + c + " has " + fields, fields <= 20);
            for (Method m : c.getDeclaredMethods()) {
                due("at most seven parameters: " + m, m.getParameterCount() <= 7);
                boolean own = c == TextMender.class && Modifier.isPublic(m.getModifiers());
                due("no other method bears a name of the face: " + m, own || !names.contains(m.getName()));
            }
        }
    }

    private static void source(Path path) throws Exception {
        List<String> lines = Files.readAllLines(path);
        int methodStart = -1;
        for (int i = 0; i < lines.size(); i++) {
            String line = lines.get(i);
            String code = line.replaceAll("//.*", "").replaceAll("^\\s*(/\\*\\*|\\*).*", "");
            for (String word : FORBIDDEN) {
                due("line " + (i + 1) + " has " + word, !code.contains(word));
            }
            due("signs of line " + (i + 1), line.chars().allMatch(c -> c < 128));
            if (code.startsWith("import")) {
                due(line, code.matches("import java\\.util\\.(Arrays|NoSuchElementException);"));
            }
            due("throw of line " + (i + 1), !code.contains("throw new") || code.contains("NoSuchElementException(\""));
            if (code.matches("^ {4,8}[a-zA-Z].*\\) (throws \\w+ )?\\{$") && !code.trim().startsWith("for")) {
                methodStart = i;
            }
            if (code.matches("^ {4,8}\\}$") && methodStart >= 0) {
                due("at most sixty lines, from " + (methodStart + 1), i - methodStart <= 60);
                methodStart = -1;
            }
        }
    }
}
