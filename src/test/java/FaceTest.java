import java.io.IOException;
import java.lang.reflect.Constructor;
import java.lang.reflect.Field;
import java.lang.reflect.Method;
import java.lang.reflect.Modifier;
import java.nio.file.Files;
import java.nio.file.Path;
import java.util.Set;
import java.util.TreeSet;
import java.util.regex.Pattern;

/** The public face, and those rules of LANGUAGE.md that can be read off the class and its text. */
public final class FaceTest {
    private static final Set<String> METHODS = Set.of(
            "int row(int,int,int,int,boolean)", "int late(int,boolean)", "int item(int,int)", "int wipe()",
            "int read(int)", "int each(int,int,int,int)", "int spans(int,int,int)", "int join(int,int,int)",
            "int meet(int,int)", "int falls(int,int)", "int first(int,int)", "int drop()", "int judge()",
            "int rows(int)", "int told(int,int,int)", "long value(int,int)", "int fails(int,int)",
            "int tell(int,int,int,long)", "int untell(int)", "int compare(int,int)", "int where(int)",
            "int count(int)", "int clear()");

    public static void main(String[] args) throws IOException, IllegalAccessException {
        constants();
        methods();
        constructors();
        classesInside();
        text();
        Due.end();
    }

    private static void constants() throws IllegalAccessException {
        String[] names = {"BAD", "FULL", "STATE", "NONE", "SPENT", "UNDONE"};
        Set<String> found = new TreeSet<>();
        for (Field f : OnePassJudge.class.getDeclaredFields()) {
            int m = f.getModifiers();
            if (Modifier.isPublic(m)) {
                found.add(f.getName());
                Due.yes(f + " is static and final", Modifier.isStatic(m) && Modifier.isFinal(m));
            } else {
                Due.yes(f + " is private", Modifier.isPrivate(m));
            }
        }
        Due.yes("the public fields are the constants: " + found, found.equals(new TreeSet<>(Set.of(names))));
        int[] values = {OnePassJudge.BAD, OnePassJudge.FULL, OnePassJudge.STATE, OnePassJudge.NONE,
            OnePassJudge.SPENT, OnePassJudge.UNDONE};
        for (int i = 0; i < values.length; i++) {
            Due.is(names[i], values[i], -1 - i);
        }
    }

    private static void methods() {
        Set<String> open = new TreeSet<>();
        Set<String> openNames = new TreeSet<>();
        Set<String> hiddenNames = new TreeSet<>();
        for (Method m : OnePassJudge.class.getDeclaredMethods()) {
            if (Modifier.isPublic(m.getModifiers())) {
                String whole = m.toGenericString().replace("OnePassJudge.", "");
                open.add(whole.replace("public ", ""));
                openNames.add(m.getName());
            } else {
                Due.yes(m + " is private", Modifier.isPrivate(m.getModifiers()));
                hiddenNames.add(m.getName());
            }
        }
        Due.yes("the public methods are those of the document: " + open, open.equals(new TreeSet<>(METHODS)));
        for (Class<?> inside : OnePassJudge.class.getDeclaredClasses()) {
            for (Method m : inside.getDeclaredMethods()) {
                hiddenNames.add(m.getName());
            }
        }
        hiddenNames.retainAll(openNames);
        Due.yes("no other method bears the name of a public one: " + hiddenNames, hiddenNames.isEmpty());
    }

    private static void constructors() {
        Constructor<?>[] all = OnePassJudge.class.getDeclaredConstructors();
        Due.is("constructors", all.length, 1);
        Due.yes("it is public and takes nothing",
                Modifier.isPublic(all[0].getModifiers()) && all[0].getParameterCount() == 0);
        int m = OnePassJudge.class.getModifiers();
        Due.yes("the class is public and final", Modifier.isPublic(m) && Modifier.isFinal(m));
    }

    private static void classesInside() {
        Class<?>[] inside = OnePassJudge.class.getDeclaredClasses();
        Due.yes("some twelve classes at most", inside.length < 12);
        for (Class<?> c : inside) {
            int m = c.getModifiers();
            Due.yes(c + " is static and not open",
                    Modifier.isStatic(m) && !Modifier.isPublic(m) && !Modifier.isProtected(m));
            long fields = java.util.Arrays.stream(c.getDeclaredFields())
                    .filter(f -> !Modifier.isStatic(f.getModifiers())).count();
            Due.yes(c + " has some twenty fields at most", fields <= 20);
            for (Method method : c.getDeclaredMethods()) {
                Due.yes(method + " takes seven parameters at most", method.getParameterCount() <= 7);
            }
        }
    }

    private static void text() throws IOException {
        String whole = Files.readString(Path.of("src/main/java/OnePassJudge.java"));
        String code = whole.replaceAll("(?s)/\\*.*?\\*/", "").replaceAll("//[^\n]*", "");
        String[] banned = {"\\bthrow\\b", "\\bthrows\\b", "\\btry\\b", "\\bcatch\\b", "\\bsynchronized\\b",
            "\\bassert\\b", "\\bimport\\b", "\\bpackage\\b", "->", "::", "\\bstatic\\s*\\{", "\\w+Exact\\b",
            "\\bSystem\\b", "\\bThread\\b", "\\bhashCode\\b", "\\btoString\\b", "\\bequals\\b"};
        for (String b : banned) {
            Due.yes("the text has no " + b, !Pattern.compile(b).matcher(code).find());
        }
    }
}
