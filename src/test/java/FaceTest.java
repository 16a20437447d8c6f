import java.lang.reflect.Constructor;
import java.lang.reflect.Field;
import java.lang.reflect.Method;
import java.lang.reflect.Modifier;
import java.util.Set;
import java.util.TreeSet;

/** The public face: all that the document has, and nothing else. */
public final class FaceTest {
    private static final String[] FACE = {
        "int feed(int, int, int, int, int)", "int slope(int)", "int fault()", "int where()", "int row(int, int)",
        "int sign(int, int)", "int wall(int, int)", "int doubters()", "int grapes()", "int weakest()", "int spent()",
        "int faithIn(int, int)", "int doubtersIn(int)", "int when(int)", "int first()", "int worstDay()", "int still()",
        "int harvest(int)", "int reach(int)", "int feign(int)", "int feignSigns(int)", "int feignFor(int, int)",
        "int bestSign(int)", "int walls(int)", "int wallsUp(int)", "int cut(int)", "int sets()", "int setAt(int)",
        "int could()", "int surely()", "int look()", "int lookLeaves()", "int judge()", "int tell(int)",
        "int tellMost(int)", "int value(int)", "int take(int)", "long mean(int, boolean)", "long all(int, boolean)",
        "long doubt(int, int, boolean)", "int grafted(int, int, int)", "int graftDoubters(int, int)",
        "int graftWhen(int, int, int)", "boolean show(int, boolean)", "boolean put(int, boolean)", "int day()",
        "boolean undo()", "int image()", "boolean back(int)", "int led(int)", "int size(int)", "int trouble()"};

    public static void main(String[] args) {
        Class<NorthVines> face = NorthVines.class;
        Check.due("public and final", Modifier.isPublic(face.getModifiers()) && Modifier.isFinal(face.getModifiers()), true);
        methods(face);
        fields(face);
        for (Constructor<?> c : face.getDeclaredConstructors()) {
            Check.due("public " + c, Modifier.isPublic(c.getModifiers()) && c.getParameterCount() == 0, true);
        }
        for (Class<?> inside : face.getDeclaredClasses()) {
            int m = inside.getModifiers();
            Check.due("static and not public: " + inside, Modifier.isStatic(m) && !Modifier.isPublic(m) && !Modifier.isProtected(m), true);
        }
        Check.due("NONE", NorthVines.NONE, -1);
        Check.end("FaceTest");
    }

    private static void methods(Class<NorthVines> face) {
        Set<String> due = new TreeSet<>(Set.of(FACE));
        Check.due("calls of the face", due.size(), 52);
        Set<String> names = new TreeSet<>();
        for (Method m : face.getDeclaredMethods()) {
            if (!Modifier.isPrivate(m.getModifiers())) {
                Check.due("in the document: " + m, Modifier.isPublic(m.getModifiers()) && due.remove(told(m)), true);
                names.add(m.getName());
            }
        }
        Check.due("lacking: " + due, due.size(), 0);
        for (Method m : face.getDeclaredMethods()) {
            Check.due("name of a public one: " + m, Modifier.isPrivate(m.getModifiers()) && names.contains(m.getName()), false);
        }
        for (Class<?> inside : face.getDeclaredClasses()) {
            for (Method m : inside.getDeclaredMethods()) {
                Check.due("name of a public one: " + m, names.contains(m.getName()), false);
            }
        }
    }

    private static String told(Method m) {
        StringBuilder s = new StringBuilder(m.getReturnType() + " " + m.getName() + "(");
        for (Class<?> type : m.getParameterTypes()) {
            s.append(s.charAt(s.length() - 1) == '(' ? "" : ", ").append(type);
        }
        return s + ")";
    }

    private static void fields(Class<NorthVines> face) {
        for (Field f : face.getDeclaredFields()) {
            int m = f.getModifiers();
            if (f.getName().equals("NONE")) {
                Check.due("NONE is a public constant", Modifier.isPublic(m) && Modifier.isStatic(m) && Modifier.isFinal(m), true);
            } else {
                Check.due("private: " + f, Modifier.isPrivate(m), true);
            }
        }
    }
}
