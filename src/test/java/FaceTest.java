import java.lang.reflect.Constructor;
import java.lang.reflect.Field;
import java.lang.reflect.Method;
import java.lang.reflect.Modifier;
import java.util.Arrays;
import java.util.Set;
import java.util.TreeSet;

/** The public face is the document's, and nothing of it is seen from outside besides. */
public final class FaceTest {
    private static final String[] FACE = {
        "int feed(int,int,int,int,int)", "boolean end(int)", "int text()", "int fault()", "int now(int)",
        "int at(int,int)", "int put(int,int,int)", "int make(int,int,int,int)", "int turn(int,int,int)",
        "int raise(int,int,int)", "int pair(int,int,int)", "int entry(int,int,int)", "int times(int,int,int)",
        "int power(int,int,int)", "int part(int,int,int)", "int apply(int,int,int)", "int sums(int,int,int)",
        "int production(int,int,int)", "int kinds(int)", "int differ(int,int,int)", "int fails(int,int,int)",
        "int free(int,int)", "int set(int,int,int)", "int lay(int)", "int unlike()", "int rebuild(int)",
        "int drawn(int,int)", "int undo()", "boolean image(int)", "boolean restore(int)"};

    public static void main(String[] args) {
        Check check = new Check();
        Set<String> seen = new TreeSet<>();
        Set<String> publicNames = new TreeSet<>();
        Set<String> privateNames = new TreeSet<>();
        for (Method method : SeriesTables.class.getDeclaredMethods()) {
            if (Modifier.isPrivate(method.getModifiers())) {
                privateNames.add(method.getName());
                continue;
            }
            check.same(method + " is public", Modifier.isPublic(method.getModifiers()), true);
            publicNames.add(method.getName());
            StringBuilder told = new StringBuilder(method.getReturnType() + " " + method.getName() + "(");
            for (Class<?> type : method.getParameterTypes()) {
                told.append(told.charAt(told.length() - 1) == '(' ? "" : ",").append(type);
            }
            seen.add(told.append(")").toString());
        }
        Set<String> due = new TreeSet<>(Arrays.asList(FACE));
        check.same("the face is " + seen + ", due is " + due, seen.equals(due), true);
        privateNames.retainAll(publicNames);
        check.same("private methods with public names: " + privateNames, privateNames.size(), 0);

        Constructor<?>[] constructors = SeriesTables.class.getDeclaredConstructors();
        check.same("constructors", constructors.length, 1);
        check.same("its parameters", constructors[0].getParameterCount(), 0);
        for (Field field : SeriesTables.class.getDeclaredFields()) {
            boolean constant = field.getName().equals("NONE");
            check.same(field + " is seen", !Modifier.isPrivate(field.getModifiers()), constant);
        }
        check.same("NONE", SeriesTables.NONE, -1);
        check.same("final", Modifier.isFinal(SeriesTables.class.getModifiers()), true);
        check.finish();
    }
}
