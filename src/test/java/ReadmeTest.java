import java.nio.file.Files;
import java.nio.file.Path;
import java.util.ArrayList;
import java.util.List;

/** The example in README.md does what its lines say, and that page names all calls of the class and all tests. */
public final class ReadmeTest {
    private static int wrong = 0;
    private static List<String> lines;
    private static int next = 0;

    private static void must(boolean good, String what) {
        if (!good) {
            wrong++;
            System.out.println("not so: " + what);
        }
    }

    private static List<String> exampleIn(String page) {
        List<String> found = new ArrayList<>();
        boolean inside = false;
        for (String line : page.split("\n")) {
            if (line.startsWith("```")) {
                inside = line.equals("```java");
            } else if (inside) {
                found.add(line);
            }
        }
        return found;
    }

    /** The next line of the example is this code, and says that it answers this. */
    private static void says(String code, int answer) {
        String line = next < lines.size() ? lines.get(next) : "";
        next++;
        must(line.startsWith(code + " "), "line " + next + " of the example is " + code + "; it is " + line);
        must(line.contains(" // " + answer + ":") || line.endsWith(" // " + answer),
                code + " answers " + answer + "; the page has " + line);
    }

    private static void goThroughExample() {
        must(!lines.isEmpty() && lines.get(next).equals("MailCore core = new MailCore();"), "an object is made first");
        next++;
        MailCore core = new MailCore();
        says("core.draft(0, 7);", core.draft(0, 7));
        int inbox = core.make(0, 0);
        says("int inbox = core.make(0, 0);", inbox);
        says("core.draft(3, 1);", core.draft(3, 1));
        int note = core.make(1, -1 - inbox);
        says("int note = core.make(1, -1 - inbox);", note);
        int all = core.query(-1, 4, 0, 10);
        says("int all = core.query(-1, 4, 0, 10);", all);
        says("core.change(1, all, 0, 0, 1);", core.change(1, all, 0, 0, 1));
        says("core.run();", core.run());
        says("core.status(note);", core.status(note));
        says("core.given(note, 1, 0);", core.given(note, 1, 0));
        says("core.many(all, 0);", core.many(all, 0));
        says("core.mail(0, 6);", core.mail(0, 6));
        says("core.mail(0, 20);", core.mail(0, 20));
        says("core.state(1);", core.state(1));
        says("core.filter(5, 0, 0);", core.filter(5, 0, 0));
        says("core.fits(0, 0);", core.fits(0, 0));
        says("core.changes(1, 1, 99);", core.changes(1, 1, 99));
        says("core.destroy(0, -1, 0);", core.destroy(0, -1, 0));
        says("core.run();", core.run());
        says("core.given(0, 2, 0);", core.given(0, 2, 0));
        says("core.status(1);", core.status(1));
        says("core.make(1, 0);", core.make(1, 0));
        says("core.crash(1);", core.crash(1));
        says("core.run();", core.run());
        says("core.told(1);", core.told(1));
        must(next == lines.size(), "all " + lines.size() + " lines of the example were gone through, not " + next);
    }

    private static void lookForNames(String page) throws Exception {
        String told = page.replace(String.join("\n", lines), "").replaceAll("\\s+", " ");
        for (java.lang.reflect.Method method : MailCore.class.getDeclaredMethods()) {
            if (java.lang.reflect.Modifier.isPublic(method.getModifiers())) {
                must(told.contains("`" + method.getName() + "("), "the page tells of " + method.getName());
            }
        }
        for (java.lang.reflect.Field field : MailCore.class.getFields()) {
            must(told.contains("`" + field.getName() + "` (" + field.getInt(null) + ")")
                    || told.contains("`" + field.getName() + "` (" + field.getInt(null) + ":"),
                    "the page tells of " + field.getName() + " and its number");
        }
        try (java.util.stream.Stream<Path> tests = Files.list(Path.of("src/test/java"))) {
            tests.forEach(test -> must(told.contains("`src/test/java/" + test.getFileName() + "`"),
                    "the page names " + test));
        }
    }

    public static void main(String[] args) throws Exception {
        String page = new String(Files.readAllBytes(Path.of("README.md")), "UTF-8").replace("\r", "");
        lines = exampleIn(page);
        goThroughExample();
        lookForNames(page);
        System.out.println(wrong == 0 ? "the page is as the class is" : wrong + " things are not so");
        if (wrong != 0) {
            System.exit(1);
        }
    }
}
