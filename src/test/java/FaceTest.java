import java.lang.reflect.Constructor;
import java.lang.reflect.Field;
import java.lang.reflect.Member;
import java.lang.reflect.Method;
import java.lang.reflect.Modifier;
import java.util.ArrayList;
import java.util.Arrays;
import java.util.HashSet;
import java.util.List;
import java.util.Set;
import java.util.TreeSet;

/** The class shows the face of the document and nothing else. */
public final class FaceTest {
    private static final String I = " throws IndexOutOfBoundsException";
    private static final String A = " throws IllegalArgumentException";
    private static final String S = " throws IllegalStateException";
    private static final String IA = I + " IllegalArgumentException";

    private static final List<String> FACE = List.of(
            "VlanProbe()",
            "void begin(int)" + A,
            "int ports()",
            "void access(int,int)" + IA,
            "void trunk(int,int,int)" + IA,
            "boolean fault(int,int)" + IA,
            "int add(int,int,int,int)" + IA + " IllegalStateException",
            "int cover()" + S,
            "void clear()",
            "int frames()",
            "int frameAt(int)" + I,
            "int pairs()",
            "int pairsMet()",
            "int expected(int)" + I,
            "int expectedTagged(int)" + I,
            "int reason(int)" + I,
            "int learned(int,int)" + A,
            "int seen(int)" + I,
            "int seenTagged(int)" + I,
            "long differing()",
            "int differencesAt(int)" + I,
            "int blame()",
            "int blamed(int)" + I,
            "int explanations()",
            "NONE", "DEAD", "DEAF", "BARE", "STRICT", "LOOSE",
            "LEAVES", "TAGGED", "UNTAGGED", "FOREIGN", "LOCAL", "NOWHERE");

    public static void main(String[] args) {
        Set<String> missing = new TreeSet<>(FACE);
        Set<String> surplus = new TreeSet<>(faceOf(VlanProbe.class));
        surplus.removeAll(FACE);
        missing.removeAll(faceOf(VlanProbe.class));
        surplus.addAll(privateNamesakes());
        int modifiers = VlanProbe.class.getModifiers();
        boolean asDue = Modifier.isPublic(modifiers) && Modifier.isFinal(modifiers)
                && missing.isEmpty() && surplus.isEmpty();
        System.out.println(asDue ? "the face is as due" : "missing " + missing + ", too much " + surplus);
        if (!asDue) {
            System.exit(1);
        }
    }

    private static Set<String> faceOf(Class<?> type) {
        Set<String> face = new HashSet<>();
        for (Constructor<?> made : type.getDeclaredConstructors()) {
            face.add(type.getSimpleName() + signature(made.getParameterTypes(), made.getExceptionTypes()));
        }
        for (Method method : type.getDeclaredMethods()) {
            if (isShown(method)) {
                face.add(method.getReturnType() + " " + method.getName()
                        + signature(method.getParameterTypes(), method.getExceptionTypes()));
            }
        }
        for (Field field : type.getDeclaredFields()) {
            if (isShown(field)) {
                face.add(field.getName());
            }
        }
        return face;
    }

    private static Set<String> privateNamesakes() {
        Set<String> names = new HashSet<>();
        for (Method method : VlanProbe.class.getDeclaredMethods()) {
            if (isShown(method)) {
                names.add(method.getName());
            }
        }
        Set<String> found = new TreeSet<>();
        List<Class<?>> types = new ArrayList<>(Arrays.asList(VlanProbe.class.getDeclaredClasses()));
        types.add(VlanProbe.class);
        for (Class<?> type : types) {
            for (Method method : type.getDeclaredMethods()) {
                boolean ofTheFace = type == VlanProbe.class && isShown(method);
                if (!ofTheFace && names.contains(method.getName())) {
                    found.add(type.getSimpleName() + "." + method.getName());
                }
            }
        }
        return found;
    }

    private static boolean isShown(Member member) {
        return !Modifier.isPrivate(member.getModifiers()) && !member.isSynthetic();
    }

    private static String signature(Class<?>[] parameters, Class<?>[] thrown) {
        List<String> names = new ArrayList<>();
        for (Class<?> parameter : parameters) {
            names.add(parameter.getName());
        }
        StringBuilder text = new StringBuilder("(" + String.join(",", names) + ")");
        for (int k = 0; k < thrown.length; k++) {
            text.append(k == 0 ? " throws " : " ").append(thrown[k].getSimpleName());
        }
        return text.toString();
    }
}
