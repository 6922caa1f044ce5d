import java.io.IOException;
import java.lang.reflect.Constructor;
import java.lang.reflect.Field;
import java.lang.reflect.Member;
import java.lang.reflect.Method;
import java.lang.reflect.Modifier;
import java.nio.file.Files;
import java.nio.file.Path;
import java.util.ArrayList;
import java.util.Arrays;
import java.util.HashSet;
import java.util.List;
import java.util.Set;
import java.util.TreeSet;

/** The class shows the face of the document and nothing else. */
public final class FaceTest {
    private static final Path DOCUMENT = Path.of("..", "shared", "DOC.md");
    private static final String I = " throws IndexOutOfBoundsException";
    private static final String A = " throws IllegalArgumentException";
    private static final String S = " throws IllegalStateException";
    private static final String IA = I + ", IllegalArgumentException";
    private static final String CONSTANT = "public static final int ";

    private static final List<String> FACE = List.of(
            "public final class VlanProbe",
            "public VlanProbe()",
            "public void begin(int)" + A,
            "public int ports()",
            "public void access(int, int)" + IA,
            "public void trunk(int, int, int)" + IA,
            "public boolean fault(int, int)" + IA,
            "public int add(int, int, int, int)" + IA + ", IllegalStateException",
            "public int cover()" + S,
            "public void clear()",
            "public int frames()",
            "public int frameAt(int)" + I,
            "public int pairs()",
            "public int pairsMet()",
            "public int expected(int)" + I,
            "public int expectedTagged(int)" + I,
            "public int reason(int)" + I,
            "public int learned(int, int)" + A,
            "public int seen(int)" + I,
            "public int seenTagged(int)" + I,
            "public long differing()",
            "public int differencesAt(int)" + I,
            "public int blame()",
            "public int blamed(int)" + I,
            "public int explanations()",
            CONSTANT + "NONE = -1",
            CONSTANT + "DEAD = 0", CONSTANT + "DEAF = 1", CONSTANT + "BARE = 2",
            CONSTANT + "STRICT = 3", CONSTANT + "LOOSE = 4",
            CONSTANT + "LEAVES = 0", CONSTANT + "TAGGED = 1", CONSTANT + "UNTAGGED = 2",
            CONSTANT + "FOREIGN = 3", CONSTANT + "LOCAL = 4", CONSTANT + "NOWHERE = 5");

    private static int wrong = 0;

    public static void main(String[] args) throws IllegalAccessException {
        compare("the class", faceOf(VlanProbe.class));
        compare("the document", faceInDocument());
        for (String name : privateNamesakes()) {
            tell("bears the name of a method of the face: " + name);
        }
        for (Class<?> inside : VlanProbe.class.getDeclaredClasses()) {
            int modifiers = inside.getModifiers();
            if (Modifier.isPublic(modifiers) || Modifier.isProtected(modifiers)) {
                tell("a class inside is shown: " + inside.getSimpleName());
            }
        }
        System.out.println(wrong == 0 ? "the face is as due" : wrong + " things of the face are wrong");
        if (wrong != 0) {
            System.exit(1);
        }
    }

    private static void compare(String whose, Set<String> face) {
        for (String one : FACE) {
            if (!face.contains(one)) {
                tell(whose + " has not: " + one);
            }
        }
        for (String one : face) {
            if (!FACE.contains(one)) {
                tell(whose + " has too: " + one);
            }
        }
    }

    private static void tell(String what) {
        wrong++;
        System.out.println(what);
    }

    // ---- the face of the class

    private static Set<String> faceOf(Class<?> type) throws IllegalAccessException {
        Set<String> face = new TreeSet<>();
        face.add(Modifier.toString(type.getModifiers()) + " class " + type.getName());
        for (Constructor<?> made : type.getDeclaredConstructors()) {
            face.add(modifiersOf(made) + type.getSimpleName()
                    + signature(made.getParameterTypes(), made.getExceptionTypes()));
        }
        for (Method method : type.getDeclaredMethods()) {
            if (isShown(method)) {
                face.add(modifiersOf(method) + method.getReturnType() + " " + method.getName()
                        + signature(method.getParameterTypes(), method.getExceptionTypes()));
            }
        }
        for (Field field : type.getDeclaredFields()) {
            if (isShown(field)) {
                String value = Modifier.isStatic(field.getModifiers()) ? " = " + field.get(null) : "";
                face.add(modifiersOf(field) + field.getType() + " " + field.getName() + value);
            }
        }
        return face;
    }

    private static String modifiersOf(Member member) {
        String modifiers = Modifier.toString(member.getModifiers());
        return modifiers.isEmpty() ? "" : modifiers + " ";
    }

    private static boolean isShown(Member member) {
        return !Modifier.isPrivate(member.getModifiers()) && !member.isSynthetic();
    }

    private static String signature(Class<?>[] parameters, Class<?>[] thrown) {
        String text = "(" + namesOf(parameters) + ")";
        return thrown.length == 0 ? text : text + " throws " + namesOf(thrown);
    }

    private static String namesOf(Class<?>[] types) {
        List<String> names = new ArrayList<>();
        for (Class<?> type : types) {
            names.add(type.getSimpleName());
        }
        return String.join(", ", names);
    }

    private static Set<String> privateNamesakes() {
        Set<String> names = new HashSet<>();
        for (Method method : VlanProbe.class.getDeclaredMethods()) {
            if (isShown(method)) {
                names.add(method.getName());
            }
        }
        Set<String> found = new TreeSet<>();
        List<Class<?>> types = new ArrayList<>(Arrays.asList(VlanProbe.class.getDeclaredClasses()));
        types.add(VlanProbe.class);
        for (Class<?> type : types) {
            for (Method method : type.getDeclaredMethods()) {
                boolean ofTheFace = type == VlanProbe.class && isShown(method);
                if (!ofTheFace && names.contains(method.getName())) {
                    found.add(type.getSimpleName() + "." + method.getName());
                }
            }
        }
        return found;
    }

    // ---- the face that the document shows

    private static Set<String> faceInDocument() {
        String document;
        try {
            document = Files.readString(DOCUMENT);
        } catch (IOException e) {
            System.out.println("the face is not compared with the document, which is not there");
            return new TreeSet<>(FACE);
        }
        Set<String> face = new TreeSet<>();
        int start = document.indexOf("```java\n");
        int end = document.indexOf("```", start + 8);
        String block = start < 0 || end < 0 ? "" : document.substring(start + 8, end);
        for (String line : block.split("\n")) {
            String told = line.strip().replaceAll("\\s*[;{}]$", "");
            if (told.startsWith(CONSTANT)) {
                for (String constant : told.substring(CONSTANT.length()).split(", ")) {
                    face.add(CONSTANT + constant);
                }
            } else if (!told.isEmpty()) {
                face.add(told.replaceAll("\\b(int|long|boolean) \\w+(?=[,)])", "$1"));
            }
        }
        return face;
    }
}
