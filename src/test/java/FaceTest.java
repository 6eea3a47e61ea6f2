import java.lang.reflect.Constructor;
import java.lang.reflect.Field;
import java.lang.reflect.Method;
import java.lang.reflect.Modifier;
import java.util.ArrayList;
import java.util.List;
import java.util.Set;
import java.util.TreeSet;

/** The public face is just the document's, and nothing else of the class is seen from outside. */
public final class FaceTest {
    private static final String[] METHODS = {
        "int ground(int,int,int)", "int yard(int,int)", "int gang(int,int,int)", "int set(int,int)",
        "int told(int,int)", "int feed(int)", "int text()", "int force(int)", "int day()", "int run(int)",
        "int done(int,int)", "int ease(int,int)", "int men(int,int)", "int quarrel(int)", "int bore(int,int)",
        "int well(int)", "int slowed(int,int)", "int bet(int,int,int)", "int soonest(int)", "int cheapest()",
        "int drawn(int)", "long chance(int,int,int,int)", "int image()", "int back()", "int count(int)",
        "int sheet(int,int,int)", "int cell(int,int,int)", "int copy(int,int,int,int,int)",
        "int grounds(int,int,int,int)", "int taken(int,int)"};

    public static void main(String[] args) {
        Due due = new Due("face");
        Class<?> face = TillTheyMeet.class;
        due.is("public and final", face.getModifiers(), Modifier.PUBLIC | Modifier.FINAL);
        checkMethods(due, face);
        checkFields(due, face);
        for (Constructor<?> c : face.getDeclaredConstructors()) {
            due.is("constructor's parameters", c.getParameterCount(), 0);
            due.is("constructor is public", c.getModifiers(), Modifier.PUBLIC);
        }
        due.is("constructors", face.getDeclaredConstructors().length, 1);
        for (Class<?> inside : face.getDeclaredClasses()) {
            due.is(inside + " is static", Modifier.isStatic(inside.getModifiers()) ? 1 : 0, 1);
            due.is(inside + " is hidden", Modifier.isPublic(inside.getModifiers()) ? 1 : 0, 0);
            checkNames(due, inside);
        }
        due.end();
    }

    private static void checkMethods(Due due, Class<?> face) {
        Set<String> wanted = new TreeSet<>(List.of(METHODS));
        Set<String> found = new TreeSet<>();
        for (Method m : face.getDeclaredMethods()) {
            if (Modifier.isPrivate(m.getModifiers())) continue;
            due.is(m + " is public", m.getModifiers(), Modifier.PUBLIC);
            found.add(signature(m));
        }
        for (String s : wanted) due.is("has " + s, found.contains(s) ? 1 : 0, 1);
        for (String s : found) due.is("may have " + s, wanted.contains(s) ? 1 : 0, 1);
        Set<String> names = names();
        for (Method m : face.getDeclaredMethods()) {
            if (Modifier.isPrivate(m.getModifiers())) due.is("private " + m, names.contains(m.getName()) ? 1 : 0, 0);
        }
    }

    private static void checkFields(Due due, Class<?> face) {
        List<String> open = new ArrayList<>();
        for (Field f : face.getDeclaredFields()) {
            if (!Modifier.isPrivate(f.getModifiers())) open.add(f.getType() + " " + f.getName());
            if (Modifier.isStatic(f.getModifiers())) due.is(f + " is final", Modifier.isFinal(f.getModifiers()) ? 1 : 0, 1);
        }
        due.is("constants " + open, open.equals(List.of("int NONE", "int BAD", "int STATE", "int FULL", "long NO")) ? 1 : 0, 1);
    }

    private static void checkNames(Due due, Class<?> inside) {
        Set<String> names = names();
        for (Method m : inside.getDeclaredMethods()) due.is(m.toString(), names.contains(m.getName()) ? 1 : 0, 0);
    }

    private static Set<String> names() {
        Set<String> names = new TreeSet<>();
        for (String s : METHODS) names.add(s.substring(s.indexOf(' ') + 1, s.indexOf('(')));
        return names;
    }

    private static String signature(Method m) {
        List<String> types = new ArrayList<>();
        for (Class<?> c : m.getParameterTypes()) types.add(c.getName());
        return m.getReturnType().getName() + " " + m.getName() + "(" + String.join(",", types) + ")";
    }
}
