import java.lang.reflect.Constructor;
import java.lang.reflect.Field;
import java.lang.reflect.Method;
import java.lang.reflect.Modifier;
import java.util.Arrays;
import java.util.Set;
import java.util.TreeSet;

/** The face is that of the document, and nothing more. */
public final class FaceTests {
    private static final String I = "IndexOutOfBoundsException ";
    private static final String A = "IllegalArgumentException ";
    private static final String S = "IllegalStateException ";
    private static final String N = "NoSuchElementException ";

    private static final String[] FACE = {
        "int feed(int,int,int,int,int) ",
        "boolean end(int) ",
        "int fair() " + A + "UnsupportedOperationException ",
        "int law() " + A,
        "int fault() ",
        "int block(int,int) " + I + N,
        "int hoop(int,int) " + I + N,
        "int person(int,int) " + I + N,
        "int aims(int,int,int,int,int,int) " + I + A,
        "int toss(int,int,int,int,int) " + I + A,
        "int clear() ",
        "boolean wets(int,boolean) " + I,
        "int skill(int,int) " + I + A,
        "int move(int,int,int) " + I + A + S,
        "int lies(int,int) " + N,
        "boolean over(int,int,int,int) " + I + A,
        "int spots(int,int) " + I,
        "int narrowest(int,int) " + I + A,
        "int comes(int,int,int,int) " + I + A,
        "int ways(int,int,int,int,int,int) " + I + A,
        "int worth(int,int,int,int,int) " + I + A,
        "int how(int,int,int,int,int) " + I + A + N,
        "int where(int,int,int) " + I,
        "int reached(int,int,int) " + I + A,
        "int places(int,int,int) " + I,
        "int earns(int,int,int) " + I + A,
        "int large(int,int,int,int) " + I + A,
        "int arranged(int,int,int,int) " + I + A,
        "int till(int,int,int,int,int,int) " + I + A,
        "int stop(int,int,int,int,int,boolean) " + I + A,
        "int game(int,int,int,int) " + I + A + S + N,
        "int gauge(boolean) " + A,
        "int hidden() ",
        "int near(int,int,int) " + A,
        "int gap(int,int) " + I + A,
        "int trial(int,int,int,int,int) " + I + A,
        "int span(int,int,int,int,int,boolean) " + I + A,
        "int robbed(int) " + I,
        "int led(int,boolean) " + I,
        "int log(int,int) " + N,
        "int seed(int) ",
        "boolean undo() ",
        "void image() ",
        "boolean back() ",
        "int count(int) ",
    };

    public static void main(String[] args) {
        Check check = new Check("FaceTests");
        Class<?> face = HoopFair.class;
        check.due("the class is public and final", Modifier.isPublic(face.getModifiers()) && Modifier.isFinal(face.getModifiers()), true);
        check.due("the methods of the face", facesOf(face), new TreeSet<>(Arrays.asList(FACE)));
        check.due("the constructors", Arrays.toString(face.getConstructors()), "[public HoopFair()]");
        check.due("constructors declared", face.getDeclaredConstructors().length, 1);
        check.due("NONE", HoopFair.NONE, -1);
        Set<String> names = new TreeSet<>();
        for (Method method : face.getDeclaredMethods()) {
            if (Modifier.isPublic(method.getModifiers())) {
                names.add(method.getName());
            } else {
                check.due(method + " is private", Modifier.isPrivate(method.getModifiers()), true);
            }
        }
        for (Field field : face.getDeclaredFields()) {
            boolean none = field.getName().equals("NONE");
            check.due(field + " is as it must be", none ? Modifier.isPublic(field.getModifiers()) : Modifier.isPrivate(field.getModifiers()), true);
        }
        checkInside(check, face, names);
        check.end();
    }

    private static Set<String> facesOf(Class<?> face) {
        Set<String> faces = new TreeSet<>();
        for (Method method : face.getDeclaredMethods()) {
            if (!Modifier.isPublic(method.getModifiers())) {
                continue;
            }
            StringBuilder text = new StringBuilder();
            text.append(method.getReturnType().getSimpleName()).append(' ').append(method.getName()).append('(');
            for (int i = 0; i < method.getParameterCount(); i++) {
                text.append(i > 0 ? "," : "").append(method.getParameterTypes()[i].getSimpleName());
            }
            text.append(") ");
            for (Class<?> thrown : method.getExceptionTypes()) {
                text.append(thrown.getSimpleName()).append(' ');
            }
            faces.add(text.toString());
        }
        return faces;
    }

    private static void checkInside(Check check, Class<?> face, Set<String> names) {
        for (Method method : face.getDeclaredMethods()) {
            if (Modifier.isPrivate(method.getModifiers())) {
                check.due(method.getName() + " is a name of the face", names.contains(method.getName()), false);
            }
        }
        check.due("classes inside are few", face.getDeclaredClasses().length <= 12, true);
        for (Class<?> inside : face.getDeclaredClasses()) {
            check.due(inside + " is static", Modifier.isStatic(inside.getModifiers()), true);
            check.due(inside + " is not public", Modifier.isPublic(inside.getModifiers()) || Modifier.isProtected(inside.getModifiers()), false);
            int own = 0;
            for (Field field : inside.getDeclaredFields()) {
                own += Modifier.isStatic(field.getModifiers()) ? 0 : 1;
                check.due(field + " is final if static", !Modifier.isStatic(field.getModifiers()) || Modifier.isFinal(field.getModifiers()), true);
            }
            check.due(inside + " has few fields", own <= 20, true);
            for (Method method : inside.getDeclaredMethods()) {
                check.due(method + " is a name of the face", names.contains(method.getName()), false);
                check.due(method + " has few parameters", method.getParameterCount() <= 7, true);
            }
            for (Constructor<?> maker : inside.getDeclaredConstructors()) {
                check.due(maker + " has few parameters", maker.getParameterCount() <= 7, true);
            }
        }
    }
}
