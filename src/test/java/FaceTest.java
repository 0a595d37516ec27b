import java.lang.reflect.Constructor;
import java.lang.reflect.Field;
import java.lang.reflect.Method;
import java.lang.reflect.Modifier;
import java.util.Arrays;
import java.util.TreeSet;

/** The public face is just the document's, and the rules of LANGUAGE.md that can be seen from outside are kept. */
public final class FaceTest {
    private static final String A = " IllegalArgumentException";
    private static final String S = " IllegalStateException";
    private static final String[] FACE = {
        "void open(int)" + A, "int input(int,int)" + A + S, "boolean deliver(int)" + A, "int drop(int)" + A,
        "boolean copy(int)" + A, "int spoil(int,int)" + A, "int forward(int)" + A, "int lie(int,int,int)" + A + S,
        "int bend(int,int,int)" + A, "int cut(int,int)" + A, "boolean hide(int,boolean)" + A,
        "int audit(int,int)" + A + S, "boolean judge(int,int)" + A, "boolean holds(int)" + A, "int byteOf(int,int)" + A,
        "int smudge(int,int,int)" + A, "int verdict(int,int)" + A, "int entry(int,int,int)" + A,
        "long head(int,int)" + A, "int about(int,int)" + A, "int total(int)" + A};

    public static void main(String[] args) {
        Check.part("the face");
        Class<?> face = TellTale.class;
        Check.due("modifiers", face.getModifiers(), Modifier.PUBLIC | Modifier.FINAL);
        Constructor<?>[] constructors = face.getDeclaredConstructors();
        Check.due("constructors", constructors.length, 1);
        Check.due("constructor", constructors[0].toString(), "public TellTale()");
        TreeSet<String> names = methods(face);
        fields(face);
        classes(face, names);
        Check.end();
    }

    private static TreeSet<String> methods(Class<?> face) {
        TreeSet<String> got = new TreeSet<>();
        TreeSet<String> names = new TreeSet<>();
        for (Method method : face.getDeclaredMethods()) {
            if (Modifier.isPublic(method.getModifiers())) {
                got.add(written(method));
                names.add(method.getName());
            }
        }
        Check.due("methods", got.toString(), new TreeSet<>(Arrays.asList(FACE)).toString());
        for (Method method : face.getDeclaredMethods()) {
            boolean open = Modifier.isPublic(method.getModifiers());
            boolean hidden = Modifier.isPrivate(method.getModifiers()) || method.isSynthetic();
            Check.due(method.getName() + " is public or private", open || hidden, true);
            Check.due(method.getName() + " bears a public name", !open && names.contains(method.getName()), false);
            Check.due(method.getName() + " has seven parameters at most", method.getParameterCount() <= 7, true);
        }
        return names;
    }

    private static String written(Method method) {
        StringBuilder text = new StringBuilder(method.getReturnType() + " " + method.getName() + "(");
        for (Class<?> type : method.getParameterTypes()) {
            text.append(text.charAt(text.length() - 1) == '(' ? "" : ",").append(type);
        }
        text.append(')');
        for (Class<?> type : method.getExceptionTypes()) {
            text.append(' ').append(type.getSimpleName());
        }
        return text.toString();
    }

    private static void fields(Class<?> face) {
        for (Field field : face.getDeclaredFields()) {
            boolean constant = field.getName().equals("NONE");
            Check.due(field.getName() + " is public", Modifier.isPublic(field.getModifiers()), constant);
            Check.due(field.getName() + " is private", Modifier.isPrivate(field.getModifiers()), !constant);
            if (Modifier.isStatic(field.getModifiers())) {
                Check.due(field.getName() + " is final", Modifier.isFinal(field.getModifiers()), true);
            }
        }
        Check.due("NONE", TellTale.NONE, -1);
    }

    private static void classes(Class<?> face, TreeSet<String> names) {
        Class<?>[] inside = face.getDeclaredClasses();
        Check.due("some twelve classes at most", inside.length + 1 <= 12, true);
        for (Class<?> own : inside) {
            int modifiers = own.getModifiers();
            Check.due(own.getName() + " is static", Modifier.isStatic(modifiers), true);
            Check.due(own.getName() + " is public", Modifier.isPublic(modifiers) || Modifier.isProtected(modifiers), false);
            for (Method method : own.getDeclaredMethods()) {
                Check.due(own.getName() + "'s " + method.getName() + " bears a public name", names.contains(method.getName()), false);
            }
        }
    }
}
