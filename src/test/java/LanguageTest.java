import java.lang.reflect.Constructor;
import java.lang.reflect.Field;
import java.lang.reflect.Method;
import java.lang.reflect.Modifier;
import java.nio.file.Files;
import java.nio.file.Path;
import java.util.Arrays;
import java.util.TreeSet;
import java.util.regex.Matcher;
import java.util.regex.Pattern;

/** The face of the class and those rules of ../shared/LANGUAGE.md that can be read off it or off its text. */
public final class LanguageTest {
    private static final String[] FACE = {"draft 2", "get 3", "query 4", "changes 3", "make 2", "change 5", "destroy 3",
        "crash 1", "run 0", "drop 0", "status 1", "many 2", "given 3", "state 1", "told 1", "box 2", "mail 2",
        "thread 2", "entry 2", "filter 3", "fits 2"};
    private static int wrong = 0;

    private static void must(boolean good, String what) {
        if (!good) {
            wrong++;
            System.out.println("not so: " + what);
        }
    }

    private static void lookAtFace() {
        TreeSet<String> face = new TreeSet<>();
        for (Method method : MailCore.class.getDeclaredMethods()) {
            if (!Modifier.isPrivate(method.getModifiers()) && !method.isSynthetic()) {
                face.add(method.getName() + " " + method.getParameterCount());
                must(Modifier.isPublic(method.getModifiers()) && !Modifier.isStatic(method.getModifiers())
                        && method.getReturnType() == int.class, method + " is as the document has it");
            }
        }
        must(face.equals(new TreeSet<>(Arrays.asList(FACE))), "the methods are those of the document: " + face);
        must(Modifier.isFinal(MailCore.class.getModifiers()), "the class is final");
        Constructor<?>[] made = MailCore.class.getDeclaredConstructors();
        must(made.length == 1 && made[0].getParameterCount() == 0, "one constructor, of nothing");
        TreeSet<String> shown = new TreeSet<>();
        for (Field field : MailCore.class.getDeclaredFields()) {
            if (!Modifier.isPrivate(field.getModifiers())) {
                shown.add(field.getName());
            }
        }
        must(shown.equals(new TreeSet<>(Arrays.asList("UNKNOWN", "OUTSIDE", "FULL", "NONE"))), "constants: " + shown);
    }

    private static void lookAtClass(Class<?> type) {
        int fields = 0;
        for (Field field : type.getDeclaredFields()) {
            boolean fixed = Modifier.isStatic(field.getModifiers());
            must(!fixed || Modifier.isFinal(field.getModifiers()), field + " is final");
            fields += fixed ? 0 : 1;
        }
        must(fields <= 20, type + " has some twenty fields");
        for (Method method : type.getDeclaredMethods()) {
            must(method.getParameterCount() <= 7, method + " takes seven at most");
            for (String name : FACE) {
                must(!Modifier.isPrivate(method.getModifiers()) || !name.startsWith(method.getName() + " "),
                        method + " has a name of its own");
            }
        }
        for (Class<?> inner : type.getDeclaredClasses()) {
            must(Modifier.isStatic(inner.getModifiers()) && !Modifier.isPublic(inner.getModifiers()), inner + " is static");
            lookAtClass(inner);
        }
    }

    private static void lookAtText(String text) {
        Matcher odd = Pattern.compile("\\b(throw|throws|try|catch|finally|synchronized|assert|import|package|instanceof"
                + "|Random|Thread|System\\.(?!arraycopy)\\w+|\\w+Exact|hashCode|toString|float|double)\\b|->|::|@")
                .matcher(text.replaceAll("(?s)/\\*.*?\\*/|//[^\n]*", ""));
        while (odd.find()) {
            must(false, "none of: " + odd.group());
        }
        must(text.chars().allMatch(sign -> sign < 127), "all signs are plain");
        must(text.lines().allMatch(line -> line.length() <= 120), "all lines are short");
        Matcher method = Pattern.compile("(?ms)^( {4,8})(public|private)[^;={}]*\\) \\{$.*?^\\1\\}$").matcher(text);
        int methods = 0;
        while (method.find()) {
            methods++;
            must(method.group().lines().count() <= 60, "a method is short: " + method.group().lines().findFirst());
        }
        must(methods > FACE.length, "methods were looked at");
    }

    public static void main(String[] args) throws Exception {
        lookAtFace();
        lookAtClass(MailCore.class);
        lookAtText(new String(Files.readAllBytes(Path.of("src/main/java/MailCore.java")), "ISO-8859-1"));
        System.out.println(wrong == 0 ? "the rules that are looked at hold" : wrong + " rules do not hold");
        if (wrong != 0) {
            System.exit(1);
        }
    }
}
