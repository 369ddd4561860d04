import java.lang.reflect.Constructor;
import java.lang.reflect.Field;
import java.lang.reflect.Method;
import java.lang.reflect.Modifier;
import java.util.Arrays;
import java.util.TreeSet;

/** The class has the document's face and no more. */
public final class FaceTest {
    private static final String[] METHODS = {
        "boolean end(int)", "boolean mow(int,int,int,int,int)", "boolean protest(int,int)",
        "boolean quarrel(int,int,int,int,int,int,int,int)", "int fault(int)", "int feed(int,int,int,int,int)",
        "int line(int)", "int look(int)", "int mowed(int,int,int)", "int paper(int)", "int rules()",
        "int said(int,int)", "int say(int,int,int,int,int,int,int)", "int spells(int,int)", "int split(int)",
        "int straight(int)",
    };

    private static void must(boolean holds, String what) {
        if (!holds) {
            Check.fail("does not hold: " + what);
        }
    }

    private static String signature(Method m) {
        StringBuilder out = new StringBuilder(m.getReturnType().getName()).append(' ').append(m.getName()).append('(');
        for (Class<?> type : m.getParameterTypes()) {
            out.append(out.charAt(out.length() - 1) == '(' ? "" : ",").append(type.getName());
        }
        return out.append(')').toString();
    }

    private static void face() throws ReflectiveOperationException {
        Class<?> c = HedgeCourt.class;
        must(Modifier.isPublic(c.getModifiers()) && Modifier.isFinal(c.getModifiers()), "the class is public and final");
        must(c.getPackageName().isEmpty(), "no package");
        TreeSet<String> seen = new TreeSet<>();
        TreeSet<String> names = new TreeSet<>();
        for (Method m : c.getDeclaredMethods()) {
            if (Modifier.isPublic(m.getModifiers())) {
                seen.add(signature(m));
                names.add(m.getName());
            }
        }
        must(seen.equals(new TreeSet<>(Arrays.asList(METHODS))), "the public methods are the document's: " + seen);
        for (Method m : c.getDeclaredMethods()) {
            int mods = m.getModifiers();
            must(Modifier.isPublic(mods) || Modifier.isPrivate(mods) || m.isSynthetic(), m + " is public or private");
            must(Modifier.isPublic(mods) || !names.contains(m.getName()), m + " has a name of its own");
        }
        Constructor<?>[] makers = c.getDeclaredConstructors();
        must(makers.length == 1 && makers[0].getParameterCount() == 0 && Modifier.isPublic(makers[0].getModifiers()),
            "one public constructor");
        for (Field f : c.getDeclaredFields()) {
            must(f.getName().equals("NONE") ? Modifier.isPublic(f.getModifiers()) : Modifier.isPrivate(f.getModifiers()),
                f + " is private");
            must(!Modifier.isStatic(f.getModifiers()) || Modifier.isFinal(f.getModifiers()), f + " is final");
        }
        must(c.getField("NONE").getInt(null) == -1, "NONE is -1");
        Class<?>[] inside = c.getDeclaredClasses();
        must(inside.length <= 11, "some twelve classes");
        for (Class<?> k : inside) {
            insideClass(k, names);
        }
    }

    private static void insideClass(Class<?> k, TreeSet<String> names) {
        must(Modifier.isStatic(k.getModifiers()) && !Modifier.isPublic(k.getModifiers()), k + " is static, not public");
        int fields = 0;
        for (Field f : k.getDeclaredFields()) {
            must(!Modifier.isStatic(f.getModifiers()) || Modifier.isFinal(f.getModifiers()), f + " is final");
            fields += Modifier.isStatic(f.getModifiers()) ? 0 : 1;
        }
        must(fields <= 20, k + " has some twenty fields");
        for (Method m : k.getDeclaredMethods()) {
            must(!names.contains(m.getName()), m + " has a name of its own");
            must(m.getParameterCount() <= 7, m + " takes seven at most");
        }
    }

    public static void main(String[] args) throws Exception {
        Check.about("the face");
        face();
        Check.finish("the face is the document's");
    }
}
