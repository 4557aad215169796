import java.lang.reflect.Constructor;
import java.lang.reflect.Field;
import java.lang.reflect.Method;
import java.lang.reflect.Modifier;
import java.util.Set;
import java.util.TreeSet;

/** The class shows the document's face and nothing more. */
public final class FaceTest {
    private static final Set<String> METHODS = Set.of(
            "int feed(int,int,int,int,int)", "boolean end(int)", "int read()", "int fault()", "int run(int,int,int)",
            "int task(int,int)", "int world(int,int,int,int)", "int attempt(int,int,boolean)", "int can(int,int)",
            "boolean passed(int,int)", "int next(int)", "int wish(int,int)", "int look(int,int)", "int hint(int,int)",
            "boolean alike(int,int,int,int)", "int token(int)", "int count(int)");

    public static void main(String[] args) {
        Class<?> face = PracticeGround.class;
        Check.yes("final", Modifier.isFinal(face.getModifiers()));
        Check.yes("public", Modifier.isPublic(face.getModifiers()));
        Check.same("NONE", PracticeGround.NONE, -1);
        Set<String> shown = new TreeSet<>();
        Set<String> names = new TreeSet<>();
        for (Method method : face.getDeclaredMethods()) {
            if (!Modifier.isPrivate(method.getModifiers())) {
                shown.add(signature(method));
                names.add(method.getName());
            }
        }
        Check.yes("the methods " + shown, shown.equals(METHODS));
        for (Field field : face.getDeclaredFields()) {
            if (!field.getName().equals("NONE")) {
                Check.yes("private " + field, Modifier.isPrivate(field.getModifiers()));
            }
            if (Modifier.isStatic(field.getModifiers())) {
                Check.yes("final " + field, Modifier.isFinal(field.getModifiers()));
            }
        }
        for (Constructor<?> each : face.getDeclaredConstructors()) {
            Check.same("parameters of " + each, each.getParameterCount(), 0);
        }
        for (Class<?> inside : face.getDeclaredClasses()) {
            Check.yes("static " + inside, Modifier.isStatic(inside.getModifiers()));
            Check.no("public " + inside, Modifier.isPublic(inside.getModifiers()));
            checkNames(inside, names);
        }
        checkNames(face, names);
        Check.finish();
    }

    private static void checkNames(Class<?> each, Set<String> names) {
        for (Method method : each.getDeclaredMethods()) {
            if (Modifier.isPrivate(method.getModifiers())) {
                Check.no("a public name: " + method, names.contains(method.getName()));
            }
        }
    }

    private static String signature(Method method) {
        StringBuilder text = new StringBuilder(method.getReturnType() + " " + method.getName() + "(");
        for (Class<?> each : method.getParameterTypes()) {
            text.append(text.charAt(text.length() - 1) == '(' ? "" : ",").append(each);
        }
        return text.append(')').toString();
    }
}
