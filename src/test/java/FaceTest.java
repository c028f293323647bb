import java.lang.reflect.Constructor;
import java.lang.reflect.Field;
import java.lang.reflect.Method;
import java.lang.reflect.Modifier;
import java.util.Set;
import java.util.TreeSet;

/** The public face is the document's, and nothing else of the class can be seen from outside. */
public final class FaceTest {
    private static final String FACE = "int feed(int,int,int,int,int)|int text(int)|int fault()|int where()"
            + "|int about(int)|int edge(int,int)|long flow(int)|long loss(int)|int joint(int,int)|long head(int)"
            + "|long pressure(int)|int weakest()|int ring(int,int)|long sum(int,int)|long early(int,int)|long work()"
            + "|long gap(int)|long balance(int)|long lossAt(int,int,int)|int behind(int)|long scaled(int)|int most(int)"
            + "|int pairs()|int fire(int,int)|int cut(int)|int vital()|int widen()|long widened()|int measure(int,int)"
            + "|int forget()|long off(int,int)|long leak(int)|int valve(int,boolean)|int draw(int,int)|int well(int)"
            + "|int resist(int,int)|int undo()|int named(int) throws java.util.NoSuchElementException|int size()"
            + "|int trouble()";

    public static void main(String[] args) {
        Set<String> due = new TreeSet<>(Set.of(FACE.split("\\|")));
        Set<String> seen = new TreeSet<>();
        Set<String> publicNames = new TreeSet<>();
        for (Method m : RingWaters.class.getDeclaredMethods()) {
            if (Modifier.isPublic(m.getModifiers())) {
                seen.add(told(m));
                publicNames.add(m.getName());
            }
        }
        Check.isTrue("public methods " + seen, seen.equals(due));
        for (Method m : RingWaters.class.getDeclaredMethods()) {
            boolean isPrivate = Modifier.isPrivate(m.getModifiers());
            Check.isTrue(m + " is public or private", Modifier.isPublic(m.getModifiers()) || isPrivate || m.isSynthetic());
            Check.isTrue(m + " bears a name of its own", !isPrivate || !publicNames.contains(m.getName()));
        }
        for (Class<?> inside : RingWaters.class.getDeclaredClasses()) {
            Check.isTrue(inside + " is static", Modifier.isStatic(inside.getModifiers()));
            Check.isTrue(inside + " is not public", !Modifier.isPublic(inside.getModifiers()));
            for (Method m : inside.getDeclaredMethods()) {
                Check.isTrue(m + " bears a name of its own", !publicNames.contains(m.getName()));
            }
        }
        lookAtFields();
        Constructor<?>[] made = RingWaters.class.getDeclaredConstructors();
        Check.isTrue("one public constructor without arguments",
                made.length == 1 && made[0].getParameterCount() == 0 && Modifier.isPublic(made[0].getModifiers()));
        Check.isTrue("the class is public and final", RingWaters.class.getModifiers() == (Modifier.PUBLIC | Modifier.FINAL));
        Check.due("NONE", RingWaters.NONE, -1);
        Check.due("NOTHING", RingWaters.NOTHING, Long.MIN_VALUE);
        Check.end();
    }

    private static void lookAtFields() {
        Set<String> seen = new TreeSet<>();
        for (Field f : RingWaters.class.getDeclaredFields()) {
            if (!Modifier.isPrivate(f.getModifiers())) {
                seen.add(Modifier.toString(f.getModifiers()) + " " + f.getType() + " " + f.getName());
            }
            Check.isTrue(f + " is final if static",
                    !Modifier.isStatic(f.getModifiers()) || Modifier.isFinal(f.getModifiers()));
        }
        Check.isTrue("fields " + seen,
                seen.equals(Set.of("public static final int NONE", "public static final long NOTHING")));
    }

    private static String told(Method m) {
        StringBuilder types = new StringBuilder();
        for (Class<?> type : m.getParameterTypes()) {
            types.append(types.length() == 0 ? "" : ",").append(type.getSimpleName());
        }
        StringBuilder thrown = new StringBuilder();
        for (Class<?> type : m.getExceptionTypes()) {
            thrown.append(" throws ").append(type.getName());
        }
        return m.getReturnType() + " " + m.getName() + "(" + types + ")" + thrown;
    }
}
