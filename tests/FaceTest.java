import java.lang.reflect.Constructor;
import java.lang.reflect.Field;
import java.lang.reflect.Method;
import java.lang.reflect.Modifier;
import java.util.Set;
import java.util.TreeSet;

/** The public face is the document's, and nothing else of the class can be seen from outside. */
public final class FaceTest {
    private static final String[] METHODS = {
        "int book(int,int,int,int)", "int booked(int)", "int cloud(int)", "void cross(int,int,int,int)", "int day()",
        "int delay(int,int,int)", "int dispute()", "int flare(int,int)", "int frame()", "int frames()",
        "int from(int,int,boolean)", "int hits(int,int)", "int imageOf(int,int,int)", "int images(int)",
        "int imagesAnew(int)", "boolean isFresh(int)", "int light(int,int)", "int lost()", "int mass(int,int,int,int)",
        "int measured(int,int,int)", "int pass(int)", "void season(int,int)", "int seen(int,int,int)",
        "int source(int,int,int)", "int two(int,int,int)", "boolean vote(int,boolean)", "int world(int)",
    };

    public static void main(String[] args) throws IllegalAccessException {
        int kind = Delaylens.class.getModifiers();
        Check.report("public final", "true", "" + (Modifier.isPublic(kind) && Modifier.isFinal(kind)));
        Set<String> methods = new TreeSet<>();
        for (Method m : Delaylens.class.getDeclaredMethods()) {
            if (!Modifier.isPrivate(m.getModifiers()) && !m.isSynthetic()) {
                methods.add(told(m));
            }
        }
        Check.report("methods", new TreeSet<>(Set.of(METHODS)).toString(), methods.toString());
        Set<String> fields = new TreeSet<>();
        for (Field f : Delaylens.class.getDeclaredFields()) {
            if (!Modifier.isPrivate(f.getModifiers()) && !f.isSynthetic()) {
                fields.add(Modifier.toString(f.getModifiers()) + " " + f.getType() + " " + f.getName() + " " + f.getInt(null));
            }
        }
        String constant = "public static final int ";
        Check.report("constants", new TreeSet<>(Set.of(constant + "NONE -1", constant + "HALO 0", constant + "STAR 1",
            constant + "SHEAR 2")).toString(), fields.toString());
        Constructor<?>[] made = Delaylens.class.getDeclaredConstructors();
        Check.report("constructors", "1", "" + made.length);
        Check.report("constructor", "public Delaylens()", made[0].toString());
        Check.end();
    }

    private static String told(Method m) {
        StringBuilder text = new StringBuilder(m.getReturnType() + " " + m.getName() + "(");
        for (int i = 0; i < m.getParameterCount(); i++) {
            text.append(i == 0 ? "" : ",").append(m.getParameterTypes()[i]);
        }
        return text.append(")").toString();
    }
}
