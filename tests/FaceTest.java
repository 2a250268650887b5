import java.io.IOException;
import java.lang.reflect.Constructor;
import java.lang.reflect.Field;
import java.lang.reflect.Method;
import java.lang.reflect.Modifier;
import java.nio.file.Files;
import java.nio.file.Path;
import java.util.List;
import java.util.Set;
import java.util.TreeSet;

/** The public face is the document's, and nothing else of the class can be seen from outside. */
public final class FaceTest {
    private static final String[] TOLD = {
        "int mass(int,int,int,int) A S", "int two(int,int,int) I A S", "int source(int,int,int) A S",
        "int flare(int,int) I A S", "void cross(int,int,int,int) I A S", "void season(int,int) A", "int cloud(int) A",
        "int world(int) A S", "int frame() S", "int pass(int) A S", "int book(int,int,int,int) I A", "boolean vote(int,boolean) I",
    };
    private static final String[] ASKED = {
        "int day()", "int from(int,int,boolean) A", "int images(int) I", "int imagesAnew(int) I", "int imageOf(int,int,int) I A",
        "int hits(int,int) A", "int lost()", "int delay(int,int,int) I", "int light(int,int) I", "int frames()",
        "int seen(int,int,int) I A", "int measured(int,int,int) I A", "int booked(int) I S", "boolean isFresh(int) I S",
        "int dispute() S",
    };

    public static void main(String[] args) throws IllegalAccessException, IOException {
        int kind = Delaylens.class.getModifiers();
        Check.report("public final", "true", "" + (Modifier.isPublic(kind) && Modifier.isFinal(kind)));
        Set<String> methods = new TreeSet<>();
        for (Method m : Delaylens.class.getDeclaredMethods()) {
            if (!Modifier.isPrivate(m.getModifiers()) && !m.isSynthetic()) {
                methods.add(told(m));
            }
        }
        Set<String> due = new TreeSet<>(List.of(TOLD));
        due.addAll(List.of(ASKED));
        Check.report("methods", due.toString(), methods.toString());
        inTheirOrder();
        Set<String> fields = new TreeSet<>();
        for (Field f : Delaylens.class.getDeclaredFields()) {
            if (!Modifier.isPrivate(f.getModifiers()) && !f.isSynthetic()) {
                fields.add(Modifier.toString(f.getModifiers()) + " " + f.getType() + " " + f.getName() + " " + f.getInt(null));
            }
        }
        String constant = "public static final int ";
        Check.report("constants", new TreeSet<>(Set.of(constant + "NONE -1", constant + "HALO 0", constant + "STAR 1",
            constant + "SHEAR 2")).toString(), fields.toString());
        Constructor<?>[] made = Delaylens.class.getDeclaredConstructors();
        Check.report("constructors", "1", "" + made.length);
        Check.report("constructor", "public Delaylens()", made[0].toString());
        Check.end();
    }

    /** Calls stand in the document's order, with the words that it wants ahead of them. */
    private static void inTheirOrder() throws IOException {
        String program = Files.readString(Path.of("src/main/java/Delaylens.java"));
        int at = program.indexOf("public Delaylens()");
        Check.report("the constructor ahead of all", "true", "" + (at > 0));
        at = ahead(program, "---- what is told", TOLD, at);
        ahead(program, "---- what is asked", ASKED, at);
    }

    private static int ahead(String program, String words, String[] calls, int start) {
        int at = program.indexOf(words, start);
        Check.report(words, "true", "" + (at > start));
        for (String call : calls) {
            int next = program.indexOf("public " + call.substring(0, call.indexOf('(') + 1), at);
            Check.report(call + " in its order", "true", "" + (next > at));
            at = next;
        }
        return at;
    }

    private static String told(Method m) {
        StringBuilder text = new StringBuilder(m.getReturnType() + " " + m.getName() + "(");
        for (int i = 0; i < m.getParameterCount(); i++) {
            text.append(i == 0 ? "" : ",").append(m.getParameterTypes()[i]);
        }
        text.append(")");
        for (Class<?> thrown : m.getExceptionTypes()) {
            text.append(" ").append(thrown.getSimpleName().equals(Check.INDEX) ? "I"
                : thrown.getSimpleName().equals(Check.ARGUMENT) ? "A" : thrown.getSimpleName().equals(Check.STATE) ? "S" : thrown);
        }
        return text.toString();
    }
}
