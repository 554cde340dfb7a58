import java.lang.reflect.Constructor;
import java.lang.reflect.Field;
import java.lang.reflect.Method;
import java.lang.reflect.Modifier;
import java.nio.file.Files;
import java.nio.file.Path;
import java.util.Set;
import java.util.TreeSet;

/** The public face of the class is that of the document, to the last exception. */
public final class FaceTest {
    public static void main(String[] args) throws Exception {
        Checks checks = new Checks("FaceTest");
        Set<String> due = readFace();
        Set<String> has = new TreeSet<>();
        for (Method method : KindredBooks.class.getDeclaredMethods()) {
            if (!Modifier.isPrivate(method.getModifiers()) && !method.isSynthetic()) {
                has.add(tell(method));
            }
        }
        for (Constructor<?> constructor : KindredBooks.class.getDeclaredConstructors()) {
            has.add(Modifier.toString(constructor.getModifiers()) + " KindredBooks()" + constructor.getParameterCount());
        }
        due.add("public KindredBooks()0");
        for (String one : due) {
            checks.isTrue("has " + one, has.contains(one));
        }
        for (String one : has) {
            checks.isTrue("the document has " + one, due.contains(one));
        }
        for (Field field : KindredBooks.class.getDeclaredFields()) {
            boolean isPublic = Modifier.toString(field.getModifiers()).equals("public static final");
            checks.isTrue("field " + field.getName(), isPublic || Modifier.isPrivate(field.getModifiers()));
        }
        checks.isTrue("the class is public and final", Modifier.toString(KindredBooks.class.getModifiers()).equals("public final"));
        checkConstants(checks);
        checks.end();
    }

    private static void checkConstants(Checks checks) throws Exception {
        String[] names = {"NONE", "ENTRY", "LINE", "JOIN", "NEVER", "MEMBER", "GONE", "BACK",
            "NAME", "WAY", "PLACE", "DAY", "NOTE", "BEGINS", "PART", "NEAR"};
        int[] values = {-1, 0, 1, 2, 3, 4, 5, 6, 0, 1, 2, 3, 4, 0, 1, 2};
        int constants = 0;
        for (Field field : KindredBooks.class.getDeclaredFields()) {
            constants += Modifier.isPublic(field.getModifiers()) ? 1 : 0;
        }
        checks.same("how many constants", constants, names.length);
        for (int i = 0; i < names.length; i++) {
            checks.same(names[i], KindredBooks.class.getField(names[i]).getInt(null), values[i]);
        }
    }

    /** The methods of the document's code block, each as a line "type name(types) throws exceptions". */
    private static Set<String> readFace() throws Exception {
        Set<String> face = new TreeSet<>();
        boolean isFace = false;
        for (String line : Files.readAllLines(Path.of("../shared/DOC.md"))) {
            isFace = line.startsWith("## ") ? line.equals("## The public face") : isFace;
            String told = line.trim();
            boolean isMethod = told.startsWith("public ") && told.endsWith(";") && told.contains("(");
            if (isFace && isMethod && !told.contains(" KindredBooks(")) {
                face.add(plain(told));
            }
        }
        return face;
    }

    private static String plain(String told) {
        String head = told.substring("public ".length(), told.indexOf('('));
        StringBuilder types = new StringBuilder();
        String arguments = told.substring(told.indexOf('(') + 1, told.indexOf(')'));
        if (!arguments.isEmpty()) {
            for (String argument : arguments.split(", ")) {
                types.append(argument.split(" ")[0]).append(' ');
            }
        }
        String rest = told.substring(told.indexOf(')') + 1).replace(" throws ", "").replace(";", "").trim();
        return head + "(" + types + ") " + rest;
    }

    private static String tell(Method method) {
        StringBuilder told = new StringBuilder();
        told.append(method.getReturnType().getSimpleName()).append(' ').append(method.getName()).append('(');
        for (Class<?> type : method.getParameterTypes()) {
            told.append(type.getSimpleName()).append(' ');
        }
        told.append(") ");
        String between = "";
        for (Class<?> type : method.getExceptionTypes()) {
            told.append(between).append(type.getSimpleName());
            between = ", ";
        }
        return told.toString();
    }
}
