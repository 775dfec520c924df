import java.lang.reflect.Constructor;
import java.lang.reflect.Field;
import java.lang.reflect.Member;
import java.lang.reflect.Method;
import java.lang.reflect.Modifier;
import java.util.Arrays;
import java.util.TreeSet;

/** The public face is the document's, and nothing more can be seen from outside. */
public final class FaceTest {
    private static final String[] METHODS = {
        "int feed(int,int,int,int,int)", "int end(int)", "int load()", "int match(int,long,long)",
        "int argument(int,long)", "int insert(int,int,int)", "int remove(int)", "int fallback(int,int)",
        "int packet(int)", "int octet(int)", "int hits(int)", "int look(int,int)", "int count(int)",
    };

    public static void main(String[] args) throws Exception {
        int modifiers = PacketSwitch.class.getModifiers();
        Expect.that("the class is public", Modifier.isPublic(modifiers));
        Expect.that("the class is final", Modifier.isFinal(modifiers));
        Expect.same("methods", new TreeSet<>(Arrays.asList(METHODS)).toString(), methods().toString());
        constructors();
        constants();
        nestedClasses();
        Expect.finish();
    }

    private static boolean isSeen(Member member) {
        return !Modifier.isPrivate(member.getModifiers()) && !member.isSynthetic();
    }

    private static TreeSet<String> methods() {
        TreeSet<String> seen = new TreeSet<>();
        for (Method method : PacketSwitch.class.getDeclaredMethods()) {
            if (isSeen(method)) {
                Expect.that(method.getName() + " is public", Modifier.isPublic(method.getModifiers()));
                seen.add(signature(method));
            }
        }
        return seen;
    }

    private static String signature(Method method) {
        StringBuilder text = new StringBuilder(method.getReturnType() + " " + method.getName() + "(");
        String comma = "";
        for (Class<?> type : method.getParameterTypes()) {
            text.append(comma).append(type);
            comma = ",";
        }
        return text.append(")").toString();
    }

    private static void constructors() {
        Constructor<?>[] all = PacketSwitch.class.getDeclaredConstructors();
        Expect.same("constructors", 1, all.length);
        Expect.that("the constructor is public", Modifier.isPublic(all[0].getModifiers()));
        Expect.same("its parameters", 0, all[0].getParameterCount());
    }

    private static void constants() throws Exception {
        TreeSet<String> seen = new TreeSet<>();
        for (Field field : PacketSwitch.class.getDeclaredFields()) {
            if (isSeen(field)) {
                int due = Modifier.PUBLIC | Modifier.STATIC | Modifier.FINAL;
                Expect.same(field.getName() + "'s modifiers", due, field.getModifiers());
                seen.add(field.getType() + " " + field.getName() + " " + field.getInt(null));
            }
        }
        Expect.same("constants",
            "[int DROPPED -5, int FULL -3, int NONE -2, int REFUSED -1, int THERE -4]", seen.toString());
    }

    private static void nestedClasses() {
        for (Class<?> nested : PacketSwitch.class.getDeclaredClasses()) {
            int modifiers = nested.getModifiers();
            Expect.that(nested.getName() + " is static", Modifier.isStatic(modifiers));
            Expect.that(nested.getName() + " is not public",
                !Modifier.isPublic(modifiers) && !Modifier.isProtected(modifiers));
        }
    }
}
