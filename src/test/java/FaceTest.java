import java.lang.reflect.Constructor;
import java.lang.reflect.Field;
import java.lang.reflect.Member;
import java.lang.reflect.Method;
import java.lang.reflect.Modifier;
import java.util.Set;
import java.util.TreeSet;

/** The public face: every constant, the constructor and all methods of the document, and no more. */
public final class FaceTest {
    private static final String[] FACE = {
        "UNKNOWN=-101", "OUTSIDE=-102", "STATE=-103", "PROOF=-104", "CAPPED=-105", "LACKS=-106", "ROOM=-107", "NONE=-109",
        "RentSizes()",
        "int edition(int,int,int,int)", "int priceAt(int,int)", "int cap(int,int)", "int make(int,int,int,int)",
        "int grow(int,int,int)", "int shrink(int,int)", "int pay(int,int,int)", "int write(int,int,int)", "int drop(int)",
        "int back(int,int,int,int)", "int digest(int)", "int tick(int)", "int weight(int,int)", "int coins(int,int)",
        "int object(int,int)", "int layer(int,int,int)", "int word(int,int)", "int wouldGive(int,int,int)",
        "long exact(long,long) throws java.lang.ArithmeticException", "int told(int)", "int clear()",
    };

    public static void main(String[] args) throws IllegalAccessException {
        Check.sentence("The public face");
        Check.due("modifiers of the class", RentSizes.class.getModifiers(), Modifier.PUBLIC | Modifier.FINAL);
        Check.same("the face", face().toString(), new TreeSet<>(Set.of(FACE)).toString());
        Check.done();
    }

    private static Set<String> face() throws IllegalAccessException {
        Set<String> face = new TreeSet<>();
        for (Field f : RentSizes.class.getDeclaredFields()) {
            if (isSeen(f)) {
                face.add(f.getName() + "=" + f.get(null));
            }
        }
        for (Constructor<?> c : RentSizes.class.getDeclaredConstructors()) {
            face.add(c.getName() + parameters(c.getParameterTypes()));
        }
        for (Method m : RentSizes.class.getDeclaredMethods()) {
            if (isSeen(m)) {
                face.add(m.getReturnType() + " " + m.getName() + parameters(m.getParameterTypes()) + thrown(m));
            }
        }
        return face;
    }

    private static boolean isSeen(Member m) {
        return !Modifier.isPrivate(m.getModifiers());
    }

    private static String parameters(Class<?>[] types) {
        StringBuilder all = new StringBuilder();
        for (Class<?> type : types) {
            all.append(all.length() == 0 ? "" : ",").append(type.getName());
        }
        return "(" + all + ")";
    }

    private static String thrown(Method m) {
        return m.getExceptionTypes().length == 0 ? "" : " throws " + m.getExceptionTypes()[0].getName();
    }
}
