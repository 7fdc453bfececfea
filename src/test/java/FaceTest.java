import java.io.IOException;
import java.lang.reflect.Constructor;
import java.lang.reflect.Field;
import java.lang.reflect.Method;
import java.lang.reflect.Modifier;
import java.nio.file.Files;
import java.nio.file.Path;
import java.util.Arrays;
import java.util.Set;
import java.util.TreeSet;
import java.util.regex.Matcher;
import java.util.regex.Pattern;

/** The document's face and no other member, and the rules of LANGUAGE.md that a text can show. */
public final class FaceTest {
    private static final String[] FACE = {
        "int instrument(int)", "int note(int,int,boolean)", "int knob(int,int,int)", "int phase(int,int)", "int table(int,int,boolean)",
        "int block(int,int,int)", "int lend(int,int,boolean)", "boolean isLent(int,int)", "int of(int,int)", "long at(int,int)",
        "int put(int,int,int)", "int copy(int,int,int,int,int)", "int bind(int)", "int function(int,int)", "int play(int,int,int,int,int,int)",
        "boolean agree(int,int,int)", "int find(int,int)", "long next(int)", "int state()", "int count(int)"};
    private static final String[] CONSTANTS = {"BAD", "FULL", "OWN", "ZERO", "NONE", "KIND", "INDEX", "SIZE", "STORE"};
    private static final String FORBIDDEN = "\\b(throw|throws|try|catch|synchronized|assert|package|Double|Float|Object|hashCode)\\b"
        + "|\\bimport (?!java\\.util\\.(ArrayList|Arrays|Iterator|List);)|(?m:^(?!\\s*(case|default)\\b).*->)|::|\\w+Exact\\b|\\bStrictMath\\b|\\bSystem\\.(?!arraycopy\\()"
        // Of these three rule 4 lists the functions, and no constants.
        + "|\\b(Integer|Long|Math)\\.[A-Z]\\w*";

    private static int wrong = 0;

    private static void due(String what, boolean holds) {
        if (!holds) {
            wrong++;
            System.out.println(what);
        }
    }

    public static void main(String[] args) throws IOException {
        methods();
        constants();
        due("the class is public and final", CallWays2.class.getModifiers() == (Modifier.PUBLIC | Modifier.FINAL));
        Constructor<?>[] made = CallWays2.class.getDeclaredConstructors();
        due("one public constructor without parameters",
            made.length == 1 && made[0].getParameterCount() == 0 && Modifier.isPublic(made[0].getModifiers()));
        classesInside();
        text();
        System.out.println(wrong == 0 ? "the face is the document's" : wrong + " faults in the face");
        if (wrong != 0) System.exit(1);
    }

    private static void methods() {
        Set<String> open = new TreeSet<>();
        Set<String> openNames = new TreeSet<>();
        for (Method m : CallWays2.class.getDeclaredMethods()) {
            if (Modifier.isPrivate(m.getModifiers())) continue;
            due("public and not static: " + m, m.getModifiers() == Modifier.PUBLIC);
            openNames.add(m.getName());
            String types = Arrays.toString(Arrays.stream(m.getParameterTypes()).map(Class::getName).toArray());
            open.add(m.getReturnType() + " " + m.getName() + types.replace(" ", "").replace('[', '(').replace(']', ')'));
        }
        Set<String> want = new TreeSet<>(Arrays.asList(FACE));
        due("methods are " + open + ", due are " + want, open.equals(want));
        for (Method m : CallWays2.class.getDeclaredMethods()) {
            due("private with a public one's name: " + m, !Modifier.isPrivate(m.getModifiers()) || !openNames.contains(m.getName()));
        }
    }

    private static void constants() {
        Set<String> open = new TreeSet<>();
        for (Field f : CallWays2.class.getDeclaredFields()) {
            boolean isPrivate = Modifier.isPrivate(f.getModifiers());
            if (!isPrivate) open.add(f.getName());
            due("static but not final: " + f, !Modifier.isStatic(f.getModifiers()) || Modifier.isFinal(f.getModifiers()));
        }
        due("open fields are " + open, open.equals(new TreeSet<>(Arrays.asList(CONSTANTS))));
        int[] values = {CallWays2.BAD, CallWays2.FULL, CallWays2.OWN, CallWays2.ZERO, CallWays2.NONE, CallWays2.KIND, CallWays2.INDEX,
            CallWays2.SIZE, CallWays2.STORE};
        for (int i = 0; i < values.length; i++) due(CONSTANTS[i] + " is " + values[i], values[i] == -1 - i);
    }

    private static void classesInside() {
        Class<?>[] inside = CallWays2.class.getDeclaredClasses();
        due("at most some twelve classes", inside.length + 1 <= 12);
        for (Class<?> c : inside) {
            int m = c.getModifiers();
            due("not static: " + c, Modifier.isStatic(m) || c.isInterface());
            due("open: " + c, !Modifier.isPublic(m) && !Modifier.isProtected(m));
            for (Field f : c.getDeclaredFields()) due("static field: " + f, !Modifier.isStatic(f.getModifiers()));
        }
    }

    private static void text() throws IOException {
        String source = Files.readString(Path.of("src/main/java/CallWays2.java"));
        String code = source.replaceAll("(?s)/\\*.*?\\*/", "").replaceAll("//[^\n]*", "");
        Matcher m = Pattern.compile(FORBIDDEN).matcher(code);
        while (m.find()) due("the rules leave out: " + m.group(), false);
    }
}
