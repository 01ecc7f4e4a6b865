import java.io.IOException;
import java.lang.reflect.Constructor;
import java.lang.reflect.Field;
import java.lang.reflect.Method;
import java.lang.reflect.Modifier;
import java.nio.file.Files;
import java.nio.file.Path;
import java.util.Arrays;
import java.util.Set;
import java.util.TreeSet;
import java.util.regex.Matcher;
import java.util.regex.Pattern;

/** The public face of the document, and those rules of LANGUAGE.md that a program can see. */
public final class FaceTest {
    private static final Set<String> FACE = Set.of(
        "int method(int)", "int op(int,int,long)", "int handler(int,int,int,int,int)", "int frame(int,int,int)",
        "int set(int,int,int,int)", "int judge(int)", "int join(int)", "int kind(int,int)", "int rounds()",
        "int kinds(int,int,boolean)", "int run(int,int,int,int,int)", "int answer()", "int told(int)",
        "int count(int,int)");

    public static void main(String[] args) throws IOException {
        methods();
        others();
        nested();
        source(Files.readString(Path.of("src/main/java/KindJudge.java")));
        Check.end();
    }

    private static String shape(Method m) {
        StringBuilder text = new StringBuilder(m.getReturnType() + " " + m.getName() + "(");
        for (Class<?> c : m.getParameterTypes()) {
            text.append(text.charAt(text.length() - 1) == '(' ? "" : ",").append(c);
        }
        return text.append(")").toString();
    }

    private static void methods() {
        Set<String> found = new TreeSet<>();
        Set<String> names = new TreeSet<>();
        for (Method m : KindJudge.class.getDeclaredMethods()) {
            if (Modifier.isPublic(m.getModifiers())) {
                found.add(shape(m));
                names.add(m.getName());
                Check.due(m + " is no static one", !Modifier.isStatic(m.getModifiers()));
            }
        }
        Check.due("the face is " + found, found.equals(new TreeSet<>(FACE)));
        for (Method m : KindJudge.class.getDeclaredMethods()) {
            Check.due(m + " is public or private, with a name of its own", Modifier.isPublic(m.getModifiers())
                || Modifier.isPrivate(m.getModifiers()) && !names.contains(m.getName()));
        }
        for (Class<?> c : KindJudge.class.getDeclaredClasses()) {
            for (Method m : c.getDeclaredMethods()) {
                Check.due(m + " has a name of its own", !names.contains(m.getName()));
                Check.due(m + " takes at most seven", m.getParameterCount() <= 7);
            }
        }
    }

    private static void others() {
        Check.due("final", Modifier.isFinal(KindJudge.class.getModifiers()));
        Constructor<?>[] all = KindJudge.class.getDeclaredConstructors();
        Check.due("constructors", all.length, 1);
        Check.due("its params", all[0].getParameterCount(), 0);
        Check.due("public", Modifier.isPublic(all[0].getModifiers()));
        Set<String> constants = Set.of("BAD", "FULL", "NONE");
        int open = 0;
        for (Field f : KindJudge.class.getDeclaredFields()) {
            boolean isOpen = Modifier.isPublic(f.getModifiers());
            open += isOpen ? 1 : 0;
            Check.due(f + " belongs there", isOpen ? constants.contains(f.getName())
                : Modifier.isPrivate(f.getModifiers()));
        }
        Check.due("open fields", open, 3);
        Check.due("BAD", KindJudge.BAD, -1);
        Check.due("FULL", KindJudge.FULL, -3);
        Check.due("NONE", KindJudge.NONE, -99999999);
    }

    private static void nested() {
        Class<?>[] all = KindJudge.class.getDeclaredClasses();
        Check.due("classes " + Arrays.toString(all), all.length <= 11);
        for (Class<?> c : all) {
            Check.due(c + " is static", Modifier.isStatic(c.getModifiers()));
            int fields = 0;
            for (Field f : c.getDeclaredFields()) {
                boolean fixed = Modifier.isStatic(f.getModifiers());
                fields += fixed ? 0 : 1;
                Check.due(f + " is final if it is static", !fixed || Modifier.isFinal(f.getModifiers()));
            }
            Check.due(c + " fields", fields <= 20);
        }
    }

    private static void source(String text) {
        String code = text.replaceAll("(?s)/\\*.*?\\*/", "").replaceAll("//[^\n]*", "");
        Matcher word = Pattern.compile(
            "\\b(throw|throws|try|catch|synchronized|assert|package|System\\.(?!arraycopy)\\w+|Exact\\w*)\\b|->|::")
            .matcher(code);
        while (word.find()) {
            Check.due("no " + word.group() + " in the source", false);
        }
        Matcher imported = Pattern.compile("import ([\\w.]+);").matcher(code);
        while (imported.find()) {
            Check.due("import " + imported.group(1), imported.group(1).equals("java.util.Arrays"));
        }
        for (int i = 0; i < text.length(); i++) {
            Check.due("plain character at " + i, text.charAt(i) < 128);
        }
    }
}
