import java.lang.reflect.Constructor;
import java.lang.reflect.Field;
import java.lang.reflect.Method;
import java.lang.reflect.Modifier;
import java.nio.file.Files;
import java.nio.file.Path;
import java.util.ArrayList;
import java.util.List;
import java.util.Set;
import java.util.TreeSet;
import java.util.regex.Matcher;
import java.util.regex.Pattern;

/** The class has just the document's face, and its source has none of the words that LANGUAGE.md rules out. */
public final class FaceTest {
    private static final Set<String> FACE = Set.of(
        "int set(long,long)", "int head(int,long,int,int,long)", "int sign(int,int)", "int term(int,int)",
        "long digest(int)", "int certified(int)", "int overlaps(int,int)", "int start(int,int)",
        "int follow(int,int)", "int give(int,int)", "int seek(int,int,int)", "int stored(int,int)",
        "int client(int,int)", "int compare(int,int)", "int blame(int,int,int)", "long leaf(int,long)",
        "long tree(int)", "int prove(int,int)", "long proof(int)", "int alter(int,long)",
        "int fraud(int,int,long)", "long chance(int,int,int,int)", "int samples(int,int,int)", "int told(int)");

    private static final Pattern RULED_OUT = Pattern.compile(
        "\\b(throw|throws|try|catch|synchronized|assert|import|package|new Object|System\\.(?!arraycopy)\\w+)\\b|->|::");

    public static void main(String[] args) throws Exception {
        Due due = new Due("FaceTest");
        methods(due);
        constants(due);
        document(due, Path.of(System.getProperty("document", "../shared/DOC.md")));
        source(due, Files.readString(Path.of(System.getProperty("source", "src/main/java/LightChecks.java"))));
        for (Class<?> one : classes()) {
            sizes(due, one);
        }
        due.holds("some twelve classes at most", classes().size() <= 12);
        due.end();
    }

    private static List<Class<?>> classes() {
        List<Class<?>> all = new ArrayList<>(List.of(LightChecks.class));
        all.addAll(List.of(LightChecks.class.getDeclaredClasses()));
        return all;
    }

    /** The face that is written out here is still the one that the document shows. */
    private static void document(Due due, Path file) throws Exception {
        if (!Files.exists(file)) {
            System.out.println("FaceTest: no document at " + file + ", so the face is not looked up there");
            return;
        }
        Matcher block = Pattern.compile("(?s)## The public face\\s+```java\n(.*?)```").matcher(Files.readString(file));
        due.holds("the document shows a face", block.find());
        Set<String> shown = new TreeSet<>();
        Set<String> others = new TreeSet<>();
        for (String line : block.group(1).lines().toList()) {
            Matcher method = Pattern.compile("\\s*public (\\w+ \\w+\\([^)]*\\));").matcher(line);
            if (method.matches()) {
                shown.add(method.group(1).replaceAll("(\\w+) \\w+([,)])", "$1$2").replace(", ", ","));
            } else {
                others.add(line.trim());
            }
        }
        due.holds("the document's methods: " + shown, shown.equals(new TreeSet<>(FACE)));
        due.holds("the document's other members: " + others, others.equals(Set.of("public final class LightChecks {",
            "public static final int BAD = -1, NONE = -2, FULL = -3;", "public LightChecks();", "}")));
    }

    private static String shape(Method m) {
        StringBuilder text = new StringBuilder(m.getReturnType() + " " + m.getName() + "(");
        for (int i = 0; i < m.getParameterCount(); i++) {
            text.append(i == 0 ? "" : ",").append(m.getParameterTypes()[i]);
        }
        return text.append(")").toString();
    }

    private static void methods(Due due) {
        Set<String> open = new TreeSet<>();
        Set<String> names = new TreeSet<>();
        for (Method m : LightChecks.class.getDeclaredMethods()) {
            if (!Modifier.isPrivate(m.getModifiers())) {
                due.holds(m + " is public, not static", Modifier.isPublic(m.getModifiers()) && !Modifier.isStatic(m.getModifiers()));
                open.add(shape(m));
                names.add(m.getName());
            }
        }
        due.holds("the methods are the document's: " + open, open.equals(new TreeSet<>(FACE)));
        hiddenNames(due, LightChecks.class, names);
        for (Class<?> inside : LightChecks.class.getDeclaredClasses()) {
            due.holds(inside + " is static and not open", Modifier.isStatic(inside.getModifiers())
                && !Modifier.isPublic(inside.getModifiers()) && !Modifier.isProtected(inside.getModifiers()));
            hiddenNames(due, inside, names);
        }
        Constructor<?>[] made = LightChecks.class.getDeclaredConstructors();
        due.holds("one public constructor without arguments",
            made.length == 1 && Modifier.isPublic(made[0].getModifiers()) && made[0].getParameterCount() == 0);
        due.holds("the class is public and final", Modifier.isPublic(LightChecks.class.getModifiers())
            && Modifier.isFinal(LightChecks.class.getModifiers()));
    }

    private static void hiddenNames(Due due, Class<?> where, Set<String> names) {
        for (Method m : where.getDeclaredMethods()) {
            if (Modifier.isPrivate(m.getModifiers())) {
                due.holds(m + " bears a name of its own", !names.contains(m.getName()));
            }
        }
    }

    private static void constants(Due due) {
        due.is("BAD", LightChecks.BAD, -1);
        due.is("NONE", LightChecks.NONE, -2);
        due.is("FULL", LightChecks.FULL, -3);
        for (Field f : LightChecks.class.getDeclaredFields()) {
            boolean open = Set.of("BAD", "NONE", "FULL").contains(f.getName());
            due.holds(f + " is as open as it should be", Modifier.isPublic(f.getModifiers()) == open
                && Modifier.isPrivate(f.getModifiers()) == !open);
            due.holds(f + " is final, if static", !Modifier.isStatic(f.getModifiers()) || Modifier.isFinal(f.getModifiers()));
        }
    }

    private static void source(Due due, String text) {
        String code = text.replaceAll("(?s)/\\*.*?\\*/", "").replaceAll("//[^\n]*", "");
        Matcher found = RULED_OUT.matcher(code);
        due.holds("no word that LANGUAGE.md rules out", !found.find());
        Matcher method = Pattern.compile("(?ms)^( +)(public|private)[^;={]*\\([^;{]*\\{\n.*?^\\1\\}\n").matcher(code);
        int methods = 0;
        while (method.find()) {
            methods++;
            String[] lines = method.group().split("\n");
            due.holds("sixty lines at most: " + lines[0].trim(), lines.length <= 60);
        }
        due.holds("the methods were found: " + methods, methods >= FACE.size());
    }

    /** Rules 3, 5 and 11 of LANGUAGE.md, as far as the class itself shows them. */
    private static void sizes(Due due, Class<?> one) {
        int fields = 0;
        for (Field f : one.getDeclaredFields()) {
            boolean isStatic = Modifier.isStatic(f.getModifiers());
            fields += isStatic ? 0 : 1;
            due.holds(f + " is of a type that may be used", isStatic ? isConstant(f.getType()) : isAllowed(f.getType()));
        }
        due.holds(one + " has some twenty fields at most", fields <= 20);
        for (Method m : one.getDeclaredMethods()) {
            due.holds(m + " takes seven parameters at most", m.getParameterCount() <= 7);
        }
        for (Constructor<?> c : one.getDeclaredConstructors()) {
            due.holds(c + " takes seven parameters at most", c.getParameterCount() <= 7);
        }
    }

    private static boolean isConstant(Class<?> type) {
        return Set.of(int.class, long.class, boolean.class, char.class, String.class,
            int[].class, long[].class, char[].class, byte[].class).contains(type);
    }

    private static boolean isAllowed(Class<?> type) {
        Class<?> part = type.isArray() ? type.getComponentType() : type;
        return part.isPrimitive() || classes().contains(part);
    }
}
