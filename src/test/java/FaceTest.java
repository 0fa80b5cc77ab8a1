import java.lang.reflect.Constructor;
import java.lang.reflect.Field;
import java.lang.reflect.Method;
import java.lang.reflect.Modifier;
import java.util.Arrays;
import java.util.Set;
import java.util.TreeSet;

/** The document's public face, and nothing beside it that is not private. */
public final class FaceTest {
    private static final String[] METHODS = {
        "int row(int, int, int)", "boolean tear(int)", "int write(int, int, long)", "int book(int)",
        "int comer(int)", "int dismiss()", "boolean tell(int, int)", "void told()", "void best()", "int bar(int)",
        "boolean few(int)", "void foresight()", "int half()", "boolean letting(int, int)", "int pass(int)",
        "boolean pay(int, int)", "boolean ranks(int)", "int yes(int, int, int)", "int happen(int, int)",
        "int forget()", "int last()", "int box(int, int)", "int empty()", "boolean fair(int)", "void search()",
        "int look(int)", "int part(boolean, int)", "int compare(int, int)", "int count(int)"};

    private FaceTest() {
    }

    public static void main(String[] args) {
        Class<?> house = ChooseOnce.class;
        Due.is("public and final", house.getModifiers(), Modifier.PUBLIC | Modifier.FINAL);
        Due.is("NONE", ChooseOnce.NONE, -1);
        methods(house);
        fields(house);
        for (Constructor<?> maker : house.getDeclaredConstructors()) {
            Due.is("a public constructor without arguments",
                Modifier.isPublic(maker.getModifiers()) && maker.getParameterCount() == 0, true);
        }
        for (Class<?> inside : house.getDeclaredClasses()) {
            int marks = inside.getModifiers();
            Due.is(inside.getName() + " is static", Modifier.isStatic(marks), true);
            Due.is(inside.getName() + " is not seen", Modifier.isPublic(marks) || Modifier.isProtected(marks), false);
        }
        Due.end();
    }

    private static void methods(Class<?> house) {
        Set<String> due = new TreeSet<>(Arrays.asList(METHODS));
        Set<String> names = new TreeSet<>();
        for (String method : METHODS) {
            names.add(method.substring(method.indexOf(' ') + 1, method.indexOf('(')));
        }
        for (Method method : house.getDeclaredMethods()) {
            if (Modifier.isPrivate(method.getModifiers())) {
                Due.is("private " + method.getName() + " has a public name", names.contains(method.getName()), false);
                continue;
            }
            StringBuilder types = new StringBuilder();
            for (Class<?> type : method.getParameterTypes()) {
                types.append(types.length() == 0 ? "" : ", ").append(type.getName());
            }
            String face = method.getReturnType().getName() + " " + method.getName() + "(" + types + ")";
            Due.is(face + " is in the document", due.remove(face), true);
            Due.is(face + " is public alone", method.getModifiers(), Modifier.PUBLIC);
        }
        for (String missing : due) {
            Due.is(missing + " is there", false, true);
        }
    }

    private static void fields(Class<?> house) {
        int publicFinal = Modifier.PUBLIC | Modifier.STATIC | Modifier.FINAL;
        for (Field field : house.getDeclaredFields()) {
            boolean isFace = field.getName().equals("NONE") && field.getModifiers() == publicFinal;
            Due.is(field.getName() + " is private", isFace || Modifier.isPrivate(field.getModifiers()), true);
        }
    }
}
