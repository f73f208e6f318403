import java.lang.reflect.Constructor;
import java.lang.reflect.Field;
import java.lang.reflect.Method;
import java.lang.reflect.Modifier;
import java.util.Arrays;
import java.util.List;
import java.util.TreeSet;

/** The public face of the document, and nothing else, with its constants. */
public final class FaceTest {
    private static final List<String> METHODS = List.of("addMember 1", "addClause 2", "set 2", "member 2", "value 1",
            "valueIn 2", "clause 1", "count 1", "open 0", "vote 2", "pass 1", "tally 1", "lacking 0", "comment 4",
            "told 2", "next 0", "resolve 2", "appeal 3", "changes 1", "change 3", "undo 0", "type 1", "clearText 0",
            "fault 1", "enter 1");
    private static final List<String> CONSTANTS = List.of("INVALID_ARGUMENT", "NOT_POSSIBLE", "LIMIT_REACHED",
            "NOT_FOUND");

    public static void main(String[] args) {
        constants();
        methods();
        fieldsAndConstructors();
        classesInside();
        Check.end("FaceTest");
    }

    private static void constants() {
        Check.due("INVALID_ARGUMENT", -1, CommitteeBallots.INVALID_ARGUMENT);
        Check.due("NOT_POSSIBLE", -2, CommitteeBallots.NOT_POSSIBLE);
        Check.due("LIMIT_REACHED", -3, CommitteeBallots.LIMIT_REACHED);
        Check.due("NOT_FOUND", -4, CommitteeBallots.NOT_FOUND);
    }

    private static void methods() {
        TreeSet<String> found = new TreeSet<>();
        for (Method method : CommitteeBallots.class.getDeclaredMethods()) {
            int modifiers = method.getModifiers();
            if (!Modifier.isPrivate(modifiers)) {
                found.add(method.getName() + " " + method.getParameterCount());
                Check.holds(method + " is public and no more",
                        modifiers == Modifier.PUBLIC && method.getReturnType() == int.class
                        && Arrays.stream(method.getParameterTypes()).allMatch(type -> type == int.class));
            }
        }
        Check.holds("the methods are " + found, found.equals(new TreeSet<>(METHODS)));
    }

    private static void fieldsAndConstructors() {
        TreeSet<String> found = new TreeSet<>();
        for (Field field : CommitteeBallots.class.getDeclaredFields()) {
            if (!Modifier.isPrivate(field.getModifiers())) {
                found.add(field.getName());
                Check.due(field + " is a public constant", Modifier.PUBLIC | Modifier.STATIC | Modifier.FINAL,
                        field.getModifiers());
            }
        }
        Check.holds("the constants are " + found, found.equals(new TreeSet<>(CONSTANTS)));
        Constructor<?>[] constructors = CommitteeBallots.class.getDeclaredConstructors();
        Check.due("one constructor", 1, constructors.length);
        Check.due("without parameters", 0, constructors[0].getParameterCount());
        Check.holds("public", Modifier.isPublic(constructors[0].getModifiers()));
    }

    private static void classesInside() {
        Check.due("public and final", Modifier.PUBLIC | Modifier.FINAL, CommitteeBallots.class.getModifiers());
        for (Class<?> inside : CommitteeBallots.class.getDeclaredClasses()) {
            Check.holds(inside + " is static and not public",
                    Modifier.isStatic(inside.getModifiers()) && !Modifier.isPublic(inside.getModifiers()));
            for (Method method : inside.getDeclaredMethods()) {
                boolean named = METHODS.stream().anyMatch(face -> face.startsWith(method.getName() + " "));
                Check.holds(method + " does not bear a name of the face", !named);
            }
        }
    }
}
