import java.lang.reflect.Field;
import java.lang.reflect.Member;
import java.lang.reflect.Method;
import java.lang.reflect.Modifier;
import java.util.ArrayList;
import java.util.HashSet;
import java.util.List;
import java.util.Set;
import java.util.TreeSet;

/** The public face of the document, and nothing besides it that can be seen from outside. */
public final class FaceTest {
    private static final Checks CHECKS = new Checks();
    private static final String[] FACE = {
        "boolean pic(char)", "void scrap()", "int field(int, int)", "int fields()", "int size(int)", "int shape(int)",
        "int peek(int)", "boolean poke(int, int)", "long value(int)", "boolean put(int, int, int)",
        "int move(int, int)", "int compute(int, int, int, int, int)", "int divide(int, int, int, int, int)",
        "int addTo(int, int, int, int)", "int total(int, int, int, int)", "int sizeErrors()", "int dataErrors()"
    };

    public static void main(String[] args) {
        methods();
        membersAreHidden();
        staticFieldsAreConstants();
        nestedClasses();
        CHECKS.finish();
    }

    private static void methods() {
        Set<String> due = new TreeSet<>(List.of(FACE));
        Set<String> found = new TreeSet<>();
        for (Method method : PicturedRecord.class.getDeclaredMethods()) {
            if (Modifier.isPublic(method.getModifiers())) {
                found.add((Modifier.isStatic(method.getModifiers()) ? "static " : "") + written(method));
            }
        }
        CHECKS.same("the public methods", found.toString(), due.toString());
        int modifiers = PicturedRecord.class.getModifiers();
        CHECKS.same("the class is public and final", Modifier.toString(modifiers), "public final");
        CHECKS.same("NONE", written(PicturedRecord.class.getFields()), "[public static final long NONE]");
        CHECKS.same("constructors", PicturedRecord.class.getDeclaredConstructors().length, 1);
        CHECKS.same("public constructors", PicturedRecord.class.getConstructors().length, 1);
    }

    private static String written(Field[] fields) {
        List<String> lines = new ArrayList<>();
        for (Field field : fields) {
            lines.add(Modifier.toString(field.getModifiers()) + " " + field.getType() + " " + field.getName());
        }
        return lines.toString();
    }

    private static String written(Method method) {
        List<String> parameters = new ArrayList<>();
        for (Class<?> type : method.getParameterTypes()) {
            parameters.add(type.toString());
        }
        return method.getReturnType() + " " + method.getName() + "(" + String.join(", ", parameters) + ")";
    }

    private static void membersAreHidden() {
        Set<String> publicNames = new HashSet<>();
        for (String line : FACE) {
            publicNames.add(line.substring(line.indexOf(' ') + 1, line.indexOf('(')));
        }
        for (Method method : PicturedRecord.class.getDeclaredMethods()) {
            if (!Modifier.isPublic(method.getModifiers())) {
                hidden(method);
            }
        }
        for (Field field : PicturedRecord.class.getDeclaredFields()) {
            if (!field.getName().equals("NONE")) {
                hidden(field);
            }
        }
        for (Class<?> type : allClasses()) {
            for (Method method : type.getDeclaredMethods()) {
                boolean clashes = Modifier.isPrivate(method.getModifiers()) && publicNames.contains(method.getName());
                CHECKS.same(method + " is private and bears a public name", clashes, false);
            }
        }
    }

    private static void hidden(Member member) {
        CHECKS.same(member.getName() + " is private", Modifier.isPrivate(member.getModifiers()), true);
    }

    private static void staticFieldsAreConstants() {
        Set<Class<?>> allowed = Set.of(int.class, long.class, boolean.class, char.class, String.class,
            int[].class, long[].class, char[].class, byte[].class);
        for (Class<?> type : allClasses()) {
            for (Field field : type.getDeclaredFields()) {
                if (Modifier.isStatic(field.getModifiers())) {
                    boolean constant = allowed.contains(field.getType()) || isOfEnum(field.getType());
                    CHECKS.same(field.getName() + " is final", Modifier.isFinal(field.getModifiers()), true);
                    CHECKS.same(field.getName() + " is a constant", constant, true);
                }
            }
        }
    }

    private static boolean isOfEnum(Class<?> type) {
        return type.isEnum() || type.isArray() && type.getComponentType().isEnum();
    }

    private static void nestedClasses() {
        Class<?>[] nested = PicturedRecord.class.getDeclaredClasses();
        CHECKS.same("few classes", nested.length < 12, true);
        for (Class<?> type : nested) {
            int modifiers = type.getModifiers();
            CHECKS.same(type + " is static", Modifier.isStatic(modifiers), true);
            CHECKS.same(type + " is hidden", Modifier.isPublic(modifiers) || Modifier.isProtected(modifiers), false);
        }
    }

    private static List<Class<?>> allClasses() {
        List<Class<?>> all = new ArrayList<>(List.of(PicturedRecord.class.getDeclaredClasses()));
        all.add(PicturedRecord.class);
        return all;
    }
}
