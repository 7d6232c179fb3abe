import java.lang.reflect.Constructor;
import java.lang.reflect.Field;
import java.lang.reflect.Method;
import java.lang.reflect.Modifier;
import java.util.Set;
import java.util.TreeSet;

/** The face is the document's and nothing more; what else LANGUAGE.md asks of members. */
public final class FaceTest {
    private static final String[] METHODS = {
        "int set(int,int,int)", "int person(int,int,int)", "int told(int,int)", "long feels(int,int)",
        "long weight(int)", "int feed(int)", "int text()", "int force(int)", "int year()", "int lift(int)",
        "int run(int,int,int)", "long heavy(int,int)", "int when(int,int)", "int best(int)", "int prop(int,int,int)",
        "int sit(int,int)", "int tells(int,int,int)", "int film(int,int)", "int drawn(int,int)",
        "long chance(int,int,int,int)", "int image()", "int back()", "int count(int)", "int sheet(int,int,int)",
        "int cell(int,int,int)", "int copy(int,int,int,int,int)", "int court(int,int,int,int)", "int taken(int,int)"};

    public static void main(String[] args) throws Exception {
        Class<?> face = NobodyCanLiftIt.class;
        Due.isTrue("public and final", face.getModifiers() == (Modifier.PUBLIC | Modifier.FINAL));
        methods(face);
        constants(face);
        constructor(face);
        int classes = 1;
        for (Class<?> inside : face.getDeclaredClasses()) {
            classes++;
            inside(inside);
        }
        Due.isTrue("twelve classes at most", classes <= 12);
        Due.end();
    }

    private static void methods(Class<?> face) {
        Set<String> want = new TreeSet<>(Set.of(METHODS));
        Set<String> got = new TreeSet<>();
        for (Method m : face.getDeclaredMethods()) {
            if (!Modifier.isPrivate(m.getModifiers())) {
                Due.isTrue("public alone: " + m, m.getModifiers() == Modifier.PUBLIC);
                StringBuilder s = new StringBuilder();
                for (Class<?> p : m.getParameterTypes()) {
                    s.append(s.length() == 0 ? "" : ",").append(p.getName());
                }
                got.add(m.getReturnType().getName() + " " + m.getName() + "(" + s + ")");
            } else {
                Due.isTrue("no public one's name: " + m, isOwnName(m));
            }
        }
        Due.isTrue("methods " + got, got.equals(want));
    }

    private static boolean isOwnName(Method m) {
        for (String s : METHODS) {
            if (s.contains(" " + m.getName() + "(")) {
                return false;
            }
        }
        return m.getParameterCount() <= 7;
    }

    private static void constants(Class<?> face) throws Exception {
        Set<String> open = new TreeSet<>();
        for (Field f : face.getDeclaredFields()) {
            if (!Modifier.isPrivate(f.getModifiers())) {
                Due.isTrue("a constant: " + f, f.getModifiers() == (Modifier.PUBLIC | Modifier.STATIC | Modifier.FINAL));
                open.add(f.getType() + " " + f.getName() + " " + f.get(null));
            }
        }
        Due.isTrue("constants " + open, open.equals(new TreeSet<>(Set.of(
            "int NONE -1", "int BAD -2", "int STATE -3", "int FULL -4", "long NO -4611686018427387904"))));
        fields(face);
    }

    private static void constructor(Class<?> face) {
        Constructor<?>[] all = face.getDeclaredConstructors();
        Due.is("constructors", all.length, 1);
        Due.isTrue("public", all[0].getModifiers() == Modifier.PUBLIC && all[0].getParameterCount() == 0);
    }

    private static void inside(Class<?> c) {
        Due.isTrue("static: " + c, Modifier.isStatic(c.getModifiers()));
        Due.isTrue("not open: " + c, (c.getModifiers() & (Modifier.PUBLIC | Modifier.PROTECTED)) == 0);
        for (Method m : c.getDeclaredMethods()) {
            Due.isTrue("no public one's name: " + m, isOwnName(m));
        }
        fields(c);
    }

    private static void fields(Class<?> c) {
        int fields = 0;
        for (Field f : c.getDeclaredFields()) {
            if (Modifier.isStatic(f.getModifiers())) {
                Due.isTrue("static and final: " + f, Modifier.isFinal(f.getModifiers()));
            } else {
                fields++;
            }
        }
        Due.isTrue("twenty fields at most: " + c, fields <= 20);
    }
}
