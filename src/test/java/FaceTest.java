import java.lang.reflect.Constructor;
import java.lang.reflect.Field;
import java.lang.reflect.Method;
import java.lang.reflect.Modifier;
import java.nio.file.Files;
import java.nio.file.Path;
import java.util.Set;
import java.util.TreeSet;
import java.util.regex.Matcher;
import java.util.regex.Pattern;

/** The class has just the document's face, and its source has none of the words that LANGUAGE.md rules out. */
public final class FaceTest {
    private static final Set<String> FACE = Set.of(
        "int set(long,long)", "int head(int,long,int,int,long)", "int sign(int,int)", "int term(int,int)",
        "long digest(int)", "int certified(int)", "int overlaps(int,int)", "int start(int,int)",
        "int follow(int,int)", "int give(int,int)", "int seek(int,int,int)", "int stored(int,int)",
        "int client(int,int)", "int compare(int,int)", "int blame(int,int,int)", "long leaf(int,long)",
        "long tree(int)", "int prove(int,int)", "long proof(int)", "int alter(int,long)",
        "int fraud(int,int,long)", "long chance(int,int,int,int)", "int samples(int,int,int)", "int told(int)");

    private static final Pattern RULED_OUT = Pattern.compile(
        "\\b(throw|throws|try|catch|synchronized|assert|import|package|new Object|System\\.(?!arraycopy)\\w+)\\b|->|::");

    public static void main(String[] args) throws Exception {
        Due due = new Due("FaceTest");
        methods(due);
        constants(due);
        source(due, Files.readString(Path.of(System.getProperty("source", "src/main/java/LightChecks.java"))));
        due.end();
    }

    private static String shape(Method m) {
        StringBuilder text = new StringBuilder(m.getReturnType() + " " + m.getName() + "(");
        for (int i = 0; i < m.getParameterCount(); i++) {
            text.append(i == 0 ? "" : ",").append(m.getParameterTypes()[i]);
        }
        return text.append(")").toString();
    }

    private static void methods(Due due) {
        Set<String> open = new TreeSet<>();
        Set<String> names = new TreeSet<>();
        for (Method m : LightChecks.class.getDeclaredMethods()) {
            if (!Modifier.isPrivate(m.getModifiers())) {
                due.holds(m + " is public, not static", Modifier.isPublic(m.getModifiers()) && !Modifier.isStatic(m.getModifiers()));
                open.add(shape(m));
                names.add(m.getName());
            }
        }
        due.holds("the methods are the document's: " + open, open.equals(new TreeSet<>(FACE)));
        hiddenNames(due, LightChecks.class, names);
        for (Class<?> inside : LightChecks.class.getDeclaredClasses()) {
            due.holds(inside + " is static and not open", Modifier.isStatic(inside.getModifiers())
                && !Modifier.isPublic(inside.getModifiers()) && !Modifier.isProtected(inside.getModifiers()));
            hiddenNames(due, inside, names);
        }
        Constructor<?>[] made = LightChecks.class.getDeclaredConstructors();
        due.holds("one public constructor without arguments",
            made.length == 1 && Modifier.isPublic(made[0].getModifiers()) && made[0].getParameterCount() == 0);
        due.holds("the class is public and final", Modifier.isPublic(LightChecks.class.getModifiers())
            && Modifier.isFinal(LightChecks.class.getModifiers()));
    }

    private static void hiddenNames(Due due, Class<?> where, Set<String> names) {
        for (Method m : where.getDeclaredMethods()) {
            if (Modifier.isPrivate(m.getModifiers())) {
                due.holds(m + " bears a name of its own", !names.contains(m.getName()));
            }
        }
    }

    private static void constants(Due due) {
        due.is("BAD", LightChecks.BAD, -1);
        due.is("NONE", LightChecks.NONE, -2);
        due.is("FULL", LightChecks.FULL, -3);
        for (Field f : LightChecks.class.getDeclaredFields()) {
            boolean open = Set.of("BAD", "NONE", "FULL").contains(f.getName());
            due.holds(f + " is as open as it should be", Modifier.isPublic(f.getModifiers()) == open
                && Modifier.isPrivate(f.getModifiers()) == !open);
            due.holds(f + " is final, if static", !Modifier.isStatic(f.getModifiers()) || Modifier.isFinal(f.getModifiers()));
        }
    }

    private static void source(Due due, String text) {
        String code = text.replaceAll("(?s)/\\*.*?\\*/", "").replaceAll("//[^\n]*", "");
        Matcher found = RULED_OUT.matcher(code);
        due.holds("no word that LANGUAGE.md rules out", !found.find());
    }
}
