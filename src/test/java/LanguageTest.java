import java.io.IOException;
import java.lang.reflect.Modifier;
import java.nio.file.Files;
import java.nio.file.Path;
import java.util.Arrays;
import java.util.regex.Matcher;
import java.util.regex.Pattern;

/** The rules of ../shared/LANGUAGE.md that can be seen in the letters of the source. */
public final class LanguageTest {
    private static final Path SOURCE = Path.of("src/main/java/CommitteeBallots.java");
    private static final String[] NOT_THERE = {"\\b(throw|throws|try|catch|finally|synchronized|assert)\\b", "->", "::",
        "\\bpackage\\b", "\\binstanceof\\b.*&&", "\\bvar\\b", "\\bwhile\\s*\\(true", "\\b(equals|hashCode|toString)\\b",
        "\\b(System\\.(out|err|nanoTime|currentTimeMillis|exit|getenv)|Thread|Random|Object)\\b", "\\bExact\\b",
        "\\b(protected|native|volatile|transient)\\b", "@", "\"", "[^\\x00-\\x7f]"};

    public static void main(String[] args) throws IOException {
        String source = Files.readString(SOURCE);
        String code = source.replaceAll("(?s)/\\*.*?\\*/", "").replaceAll("//[^\n]*", "");
        for (String pattern : NOT_THERE) {
            Matcher matcher = Pattern.compile(pattern).matcher(code);
            Check.holds("the source has no " + pattern, !matcher.find());
        }
        imports(code);
        statics(code);
        methods(code);
        fields(CommitteeBallots.class);
        Check.holds("at most twelve classes", count("\\b(class|record|enum|interface) ", code) <= 12);
        Check.end("LanguageTest");
    }

    private static void imports(String code) {
        Check.due("imports but java.util.Arrays", 0, count("(?m)^import (?!java\\.util\\.Arrays;)", code));
    }

    /** Static fields are final; int[] ones are written out. */
    private static void statics(String code) {
        Check.due("static fields that are not final", 0, count("\\bstatic (?!final )[\\w\\[\\]]+ \\w+ *[=;]", code));
        Check.due("static objects", 0, count("\\bstatic final [\\w\\[\\]]+ \\w+ = new\\b", code));
        Check.due("static blocks", 0, count("\\bstatic *\\{", code));
    }

    /** Methods stay under sixty lines and take at most seven parameters. */
    private static void methods(String code) {
        Matcher method = Pattern.compile("(?ms)^( {4}| {8})\\w[^;={}]*\\(([^)]*)\\) \\{\n(.*?)^\\1\\}").matcher(code);
        int found = 0;
        while (method.find()) {
            found++;
            String about = method.group().lines().findFirst().orElse("").trim();
            Check.holds("short: " + about, method.group(3).lines().count() <= 60);
            Check.holds("few parameters: " + about, method.group(2).split(",").length <= 7);
            // A constructor has no type ahead of its name; what it makes is used again by every call.
            boolean isConstructor = about.matches("(public )?\\w+\\(.*");
            Check.holds("makes no object: " + about, isConstructor || count("\\bnew\\b", method.group(3)) == 0);
        }
        Check.holds("the methods are found", found > 50);
    }

    /** A class has some twenty fields beside its constants. */
    private static void fields(Class<?> holder) {
        long fields = Arrays.stream(holder.getDeclaredFields())
                .filter(field -> !Modifier.isStatic(field.getModifiers())).count();
        Check.holds(holder + " has " + fields + " fields", fields > 0 && fields <= 20);
        for (Class<?> inside : holder.getDeclaredClasses()) {
            fields(inside);
        }
    }

    private static int count(String pattern, String text) {
        Matcher matcher = Pattern.compile(pattern).matcher(text);
        int found = 0;
        while (matcher.find()) {
            found++;
        }
        return found;
    }
}
