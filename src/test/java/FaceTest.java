import java.lang.reflect.Constructor;
import java.lang.reflect.Field;
import java.lang.reflect.Method;
import java.lang.reflect.Modifier;
import java.util.Set;
import java.util.TreeSet;

/** The class shows the document's face and nothing else. */
public final class FaceTest {
    private static final Set<String> FACE = Set.of(
            "boolean draft(char)", "void scrap()", "int apply()", "boolean symbol(int,char)", "boolean groupFrom(int)",
            "int write(long,int,int)", "boolean type(char)", "void wipe()", "int length()", "int at(int)", "int read()",
            "long size()", "int scale()",
            "UP=0", "DOWN=1", "CEILING=2", "FLOOR=3", "HALF_UP=4", "HALF_DOWN=5", "HALF_EVEN=6", "EXACT=7",
            "REFUSED=-1", "INEXACT=-2",
            "new()");

    public static void main(String[] args) throws ReflectiveOperationException {
        Check check = new Check();
        int modifiers = DecimalPatterns.class.getModifiers();
        check.same("public final", Modifier.isPublic(modifiers) && Modifier.isFinal(modifiers), true);
        Set<String> shown = new TreeSet<>();
        Set<String> publicNames = new TreeSet<>();
        for (Method m : DecimalPatterns.class.getDeclaredMethods()) {
            if (!Modifier.isPrivate(m.getModifiers())) {
                shown.add(m.getReturnType() + " " + m.getName() + "(" + types(m.getParameterTypes()) + ")");
                publicNames.add(m.getName());
                check.same(m.getName() + " is public", Modifier.isPublic(m.getModifiers()), true);
            }
        }
        for (Field f : DecimalPatterns.class.getDeclaredFields()) {
            if (!Modifier.isPrivate(f.getModifiers())) {
                shown.add(f.getName() + "=" + f.getInt(null));
            }
            boolean isStatic = Modifier.isStatic(f.getModifiers());
            check.same(f.getName() + ": static fields are final", !isStatic || Modifier.isFinal(f.getModifiers()), true);
        }
        for (Constructor<?> c : DecimalPatterns.class.getDeclaredConstructors()) {
            shown.add("new(" + types(c.getParameterTypes()) + ")");
            check.same("the constructor is public", Modifier.isPublic(c.getModifiers()), true);
        }
        check.same("the face", shown.toString(), new TreeSet<>(FACE).toString());
        checkPrivateNames(check, DecimalPatterns.class, publicNames);
        for (Class<?> inside : DecimalPatterns.class.getDeclaredClasses()) {
            check.same(inside + " is static", Modifier.isStatic(inside.getModifiers()), true);
            checkPrivateNames(check, inside, publicNames);
        }
        check.finish();
    }

    private static void checkPrivateNames(Check check, Class<?> where, Set<String> publicNames) {
        for (Method m : where.getDeclaredMethods()) {
            boolean ofTheFace = where == DecimalPatterns.class && Modifier.isPublic(m.getModifiers());
            check.same(where + " " + m.getName() + ": a name of the face's", !ofTheFace && publicNames.contains(m.getName()), false);
        }
    }

    private static String types(Class<?>[] types) {
        StringBuilder all = new StringBuilder();
        for (Class<?> type : types) {
            all.append(all.length() == 0 ? "" : ",").append(type);
        }
        return all.toString();
    }
}
