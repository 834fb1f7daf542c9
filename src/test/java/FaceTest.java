import java.lang.reflect.Constructor;
import java.lang.reflect.Field;
import java.lang.reflect.Method;
import java.lang.reflect.Modifier;
import java.util.Arrays;
import java.util.Set;
import java.util.TreeSet;

/** The document's face and rule 1 of the language: these members are public, and no other is seen from outside. */
public final class FaceTest {
    private static final String[] FACE = {
        "public void FetchDesk.serve(int,int,int,int) throws IllegalArgumentException",
        "public void FetchDesk.headers(int,int,int) throws IllegalArgumentException",
        "public int FetchDesk.allow(int,int,boolean) throws IllegalArgumentException",
        "public void FetchDesk.asked(int,boolean,int,int,double) throws IllegalArgumentException",
        "public double FetchDesk.tick(double) throws IllegalArgumentException",
        "public int FetchDesk.fetch(int,int,int,int,int,int,int)"
                + " throws IllegalArgumentException,UnsupportedOperationException",
        "public int FetchDesk.told(int) throws IllegalArgumentException",
        "public int FetchDesk.kept(int,int) throws IllegalArgumentException,IndexOutOfBoundsException",
        "public double FetchDesk.left(int) throws IndexOutOfBoundsException",
        "public int FetchDesk.count(int) throws IllegalArgumentException",
    };

    public static void main(String[] args) {
        Checks checks = new Checks("face");
        Set<String> seen = new TreeSet<>();
        Set<String> publicNames = new TreeSet<>();
        Set<String> privateNames = new TreeSet<>();
        for (Method method : FetchDesk.class.getDeclaredMethods()) {
            if (Modifier.isPrivate(method.getModifiers())) {
                privateNames.add(method.getName());
            } else {
                seen.add(method.toString().replace("java.lang.", ""));
                publicNames.add(method.getName());
            }
        }
        if (!seen.equals(new TreeSet<>(Arrays.asList(FACE)))) {
            checks.same("the methods are " + seen, 0, 1);
        }
        privateNames.retainAll(publicNames);
        checks.same("private methods with a public name: " + privateNames, privateNames.size(), 0);
        for (Field field : FetchDesk.class.getDeclaredFields()) {
            checks.same(field + " is private", field.getModifiers() & Modifier.PRIVATE, Modifier.PRIVATE);
        }
        Constructor<?>[] constructors = FetchDesk.class.getDeclaredConstructors();
        checks.same("constructors", constructors.length, 1);
        checks.same("the constructor's parameters", constructors[0].getParameterCount(), 0);
        checks.same("the constructor is public", constructors[0].getModifiers(), Modifier.PUBLIC);
        checks.same("public final", FetchDesk.class.getModifiers(), Modifier.PUBLIC | Modifier.FINAL);
        for (Class<?> inside : FetchDesk.class.getDeclaredClasses()) {
            checks.same(inside + " is static", inside.getModifiers() & Modifier.STATIC, Modifier.STATIC);
            checks.same(inside + " is not public", inside.getModifiers() & Modifier.PUBLIC, 0);
        }
        checks.end();
    }
}
