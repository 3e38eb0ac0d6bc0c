import java.lang.reflect.Constructor;
import java.lang.reflect.Field;
import java.lang.reflect.Method;
import java.lang.reflect.Modifier;
import java.util.Arrays;
import java.util.Set;
import java.util.TreeSet;

/** The public face is the document's, with nothing beside it that another class could see. */
public final class FaceTest {
    private static final String[] METHODS = {
        "boolean depth(int,int,int,int,int)", "int mark(int,int,int)", "boolean sight(int)",
        "boolean bearing(int,int,int,int,int,int)", "boolean sounding(int,int,int)", "int lies(int,int)",
        "boolean day(int)", "boolean chain(int,int,int,int)", "boolean wear(int,int,int)", "int chainOf(int,int)",
        "boolean light(int,int,int)", "boolean near(int)", "int alike(int,int)", "int warn(int,int)",
        "boolean cancel(int)", "int list(int)", "int listed(int,int)", "int warning(int,int)",
        "boolean job(int,int,int,int)", "boolean weather(int,int,int)", "boolean ship(int,int,int,int)",
        "boolean at(int,int,int,int)", "int round(int)", "int about(int)"};

    public static void main(String[] args) {
        Class<?> face = BuoyTender.class;
        Checks.yes("the class is public and final",
            Modifier.isPublic(face.getModifiers()) && Modifier.isFinal(face.getModifiers()));
        methods(face);
        fields(face);
        Constructor<?>[] made = face.getDeclaredConstructors();
        Checks.yes("one public constructor without arguments",
            made.length == 1 && Modifier.isPublic(made[0].getModifiers()) && made[0].getParameterCount() == 0);
        classesInside(face);
        Checks.finish();
    }

    private static String told(Method m) {
        StringBuilder text = new StringBuilder(m.getReturnType() + " " + m.getName() + "(");
        for (Class<?> p : m.getParameterTypes()) {
            text.append(text.charAt(text.length() - 1) == '(' ? "" : ",").append(p.getName());
        }
        return text.append(")").toString();
    }

    private static void methods(Class<?> face) {
        Set<String> due = new TreeSet<>(Arrays.asList(METHODS));
        Set<String> seen = new TreeSet<>();
        Set<String> names = new TreeSet<>();
        for (Method m : face.getDeclaredMethods()) {
            if (!Modifier.isPrivate(m.getModifiers())) {
                seen.add(told(m));
                names.add(m.getName());
                Checks.yes(told(m) + " is public and of an object",
                    Modifier.isPublic(m.getModifiers()) && !Modifier.isStatic(m.getModifiers()));
            }
        }
        System.out.println("methods of the face: " + seen.size());
        Checks.yes("the methods are the document's: " + seen, seen.equals(due));
        privateMethods(face, names);
        for (Class<?> c : face.getDeclaredClasses()) {
            privateMethods(c, names);
        }
    }

    private static void privateMethods(Class<?> c, Set<String> names) {
        for (Method m : c.getDeclaredMethods()) {
            Checks.no("a private method of " + c.getName() + " is called " + m.getName(),
                Modifier.isPrivate(m.getModifiers()) && names.contains(m.getName()));
            Checks.yes(m.getName() + " takes seven arguments at most", m.getParameterCount() <= 7);
        }
    }

    private static void fields(Class<?> face) {
        for (Field f : face.getDeclaredFields()) {
            boolean none = f.getName().equals("NONE");
            Checks.due("field " + f.getName() + " is public", Modifier.isPublic(f.getModifiers()), none);
            Checks.due("field " + f.getName() + " is private", Modifier.isPrivate(f.getModifiers()), !none);
            Checks.no("field " + f.getName() + " is static and not final",
                Modifier.isStatic(f.getModifiers()) && !Modifier.isFinal(f.getModifiers()));
        }
    }

    private static void classesInside(Class<?> face) {
        Class<?>[] inside = face.getDeclaredClasses();
        Checks.yes("some twelve classes at most", inside.length <= 12);
        for (Class<?> c : inside) {
            int bits = c.getModifiers();
            Checks.yes(c.getName() + " is static", Modifier.isStatic(bits));
            Checks.no(c.getName() + " is public or protected", Modifier.isPublic(bits) || Modifier.isProtected(bits));
            long own = Arrays.stream(c.getDeclaredFields()).filter(f -> !Modifier.isStatic(f.getModifiers())).count();
            Checks.yes(c.getName() + " has some twenty fields at most", own <= 20);
        }
    }
}
