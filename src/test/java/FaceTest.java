import java.lang.reflect.Field;
import java.lang.reflect.Method;
import java.lang.reflect.Modifier;
import java.util.Arrays;
import java.util.Set;
import java.util.TreeSet;

/** The face of the class is the document's, and nothing else can be seen of it (rules 1 and 5 of LANGUAGE.md). */
public final class FaceTest {
    /** Each method with the exceptions that it lists, in their order. */
    private static final String[] FACE = {
        "int part(int) IllegalArgument IllegalState",
        "int type(int,int) IllegalArgument IllegalState",
        "int layout(int,int) IllegalArgument IndexOutOfBounds",
        "int fits(int,int) IllegalArgument",
        "int instance() IllegalState",
        "int function(int,int,int) IllegalArgument UnsupportedOperation IllegalState",
        "void write(int,int,int,long) IllegalArgument IndexOutOfBounds",
        "int read(int,int) IllegalArgument IndexOutOfBounds",
        "void enter(int) IllegalArgument IllegalState",
        "void leave() IllegalState",
        "int make(int) IllegalState IllegalArgument UnsupportedOperation",
        "boolean drop(int) IllegalState NoSuchElement UnsupportedOperation",
        "int handle(int,int,int) IllegalArgument",
        "int call(int,int,int) IllegalState IllegalArgument UnsupportedOperation NoSuchElement",
        "int back(int,int) IllegalState IllegalArgument UnsupportedOperation",
        "void trap() IllegalState",
        "int passed()",
        "int depth()",
        "int level(int)",
        "int state(int,int) IllegalArgument",
        "int close(int) IllegalArgument IllegalState",
        "int resources(int,boolean) IllegalArgument",
        "int latest(int) IllegalArgument",
    };

    private static final Set<Class<?>> CONSTANTS = Set.of(int.class, long.class, boolean.class, char.class, String.class,
            int[].class, long[].class, char[].class, byte[].class);

    public static void main(String[] args) {
        Checks c = new Checks();
        Class<?> face = HostedCalls.class;
        c.due("public final", Modifier.isPublic(face.getModifiers()) && Modifier.isFinal(face.getModifiers()), true);
        c.due("NONE", HostedCalls.NONE, -1);
        c.due("constructors", face.getDeclaredConstructors().length, 1);
        c.due("public constructors", face.getConstructors().length, 1);
        methodsAreDue(c, face);
        for (Field field : face.getDeclaredFields()) {
            boolean open = !Modifier.isPrivate(field.getModifiers());
            c.due("open field " + field, open, field.getName().equals("NONE"));
            fieldIsDue(c, field);
        }
        for (Class<?> inside : face.getDeclaredClasses()) {
            c.due("static " + inside, Modifier.isStatic(inside.getModifiers()), true);
            c.due("hidden " + inside, Modifier.isPublic(inside.getModifiers()), false);
            for (Field field : inside.getDeclaredFields()) {
                fieldIsDue(c, field);
            }
            for (Method method : inside.getDeclaredMethods()) {
                c.due("a method inside has a public name: " + method, names().contains(method.getName()), false);
            }
        }
        c.due("classes", face.getDeclaredClasses().length <= 12, true);
        c.end();
    }

    private static void methodsAreDue(Checks c, Class<?> face) {
        Set<String> due = new TreeSet<>(Arrays.asList(FACE));
        Set<String> names = names();
        for (Method method : face.getDeclaredMethods()) {
            String told = told(method);
            if (Modifier.isPrivate(method.getModifiers())) {
                c.due("a private method has a public name: " + told, names.contains(method.getName()), false);
            } else {
                c.due("of the face: " + told, due.remove(told), true);
            }
        }
        for (String missing : due) {
            c.tell("there is no " + missing);
        }
    }

    private static Set<String> names() {
        Set<String> names = new TreeSet<>();
        for (String method : FACE) {
            names.add(method.substring(method.indexOf(' ') + 1, method.indexOf('(')));
        }
        return names;
    }

    private static String told(Method method) {
        String types = Arrays.toString(method.getParameterTypes()).replaceAll("[\\[\\] ]", "");
        String told = method.getReturnType() + " " + method.getName() + "(" + types + ")";
        for (Class<?> exception : method.getExceptionTypes()) {
            told += " " + exception.getSimpleName().replace("Exception", "");
        }
        return told;
    }

    private static void fieldIsDue(Checks c, Field field) {
        if (Modifier.isStatic(field.getModifiers())) {
            c.due("final " + field, Modifier.isFinal(field.getModifiers()), true);
            boolean constant = CONSTANTS.contains(field.getType()) || field.isEnumConstant() || field.isSynthetic();
            c.due("a constant " + field, constant, true);
        }
    }
}
