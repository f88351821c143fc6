import java.lang.reflect.Constructor;
import java.lang.reflect.Field;
import java.lang.reflect.Method;
import java.lang.reflect.Modifier;
import java.util.Set;
import java.util.TreeSet;

/** The public face: just the document's members, all else private or static nested. */
public final class FaceTest {
    private static final String[] FACE = {
        "boolean write(int)", "void wipe()", "int read(int)", "boolean whole(int,long)",
        "boolean real(int,double)", "int combine(int,int,int,int)", "int power(int,int,int,int)",
        "int turn(int,int,int)", "int round(int,int,int)", "int sum(int,int)", "int compare(int,int)",
        "long hash(int)", "int show(int)", "int format(int)", "int letter(int)", "int kind(int)",
        "double value(int)", "long part(int,boolean,int)"
    };

    public static void main(String[] args) {
        Class<?> tower = NumberTower.class;
        Bench.due("modifiers", Modifier.toString(tower.getModifiers()), "public final");
        Bench.due("NONE", NumberTower.NONE, -1);
        Set<String> publicMethods = new TreeSet<>();
        Set<String> publicNames = new TreeSet<>();
        for (Method m : tower.getDeclaredMethods()) {
            if (Modifier.isPublic(m.getModifiers())) {
                publicMethods.add(signature(m));
                publicNames.add(m.getName());
            }
        }
        Bench.due("public methods", publicMethods, new TreeSet<>(Set.of(FACE)));
        for (Method m : tower.getDeclaredMethods()) {
            boolean named = publicNames.contains(m.getName()) && !Modifier.isPublic(m.getModifiers());
            Bench.due("a private method named as a public one: " + m.getName(), named, false);
            int open = m.getModifiers() & (Modifier.PUBLIC | Modifier.PRIVATE);
            Bench.due("an open method: " + m.getName(), open == 0, false);
        }
        for (Field f : tower.getDeclaredFields()) {
            boolean open = !Modifier.isPrivate(f.getModifiers()) && !f.getName().equals("NONE");
            Bench.due("an open field: " + f.getName(), open, false);
        }
        Constructor<?>[] constructors = tower.getDeclaredConstructors();
        Bench.due("constructors", constructors.length, 1);
        Bench.due("its parameters", constructors[0].getParameterCount(), 0);
        for (Class<?> inner : tower.getDeclaredClasses()) {
            int m = inner.getModifiers();
            Bench.due("open class " + inner, Modifier.isPublic(m) || Modifier.isProtected(m), false);
            Bench.due("static class " + inner, Modifier.isStatic(m), true);
        }
        Bench.end("FaceTest");
    }

    private static String signature(Method m) {
        StringBuilder s = new StringBuilder(m.getReturnType() + " " + m.getName() + "(");
        Class<?>[] types = m.getParameterTypes();
        for (int i = 0; i < types.length; i++) {
            s.append(i == 0 ? "" : ",").append(types[i]);
        }
        return s.append(")").toString();
    }
}
