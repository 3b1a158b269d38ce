import java.lang.reflect.Constructor;
import java.lang.reflect.Field;
import java.lang.reflect.Method;
import java.lang.reflect.Modifier;
import java.util.Set;
import java.util.TreeSet;

/** The face of the class is that of the document, and its members keep the countable rules of LANGUAGE.md. */
public final class FaceTest {
    private static final Set<String> METHODS = new TreeSet<>(Set.of(
        "addPerson(int)", "bar(int,int,boolean)", "setShare(int,int)", "type(char)", "clearText()", "newFile()",
        "readSegments(int)", "remember(int)", "swapFiles(int,int)", "withdraw(int)", "take(int,int)",
        "translate(int,int,int)", "review(int,int)", "reject(int,int)", "deliver(int)", "settle(int,int)", "undo()",
        "keep()", "restore()", "person(int,int)", "file(int,int)", "segment(int,int,int)", "charAt(int,int,int)",
        "distance(int,int,int)", "wordsIn(int,int)", "allWords(int)", "price(int,int)", "firstReviewer(int)",
        "entry(int,int)", "dispute(int,int)", "fileAt(int)", "count(int)"));

    private static final Set<String> CONSTANTS =
        new TreeSet<>(Set.of("UNKNOWN=-1", "BAD_VALUE=-2", "FULL=-3", "NOT_POSSIBLE=-4", "NONE=-5"));

    public static void main(String[] args) throws IllegalAccessException {
        Class<?> face = MatchBureau.class;
        Check.due("public and final", face.getModifiers(), Modifier.PUBLIC | Modifier.FINAL);
        publicMethods(face);
        constants(face);
        constructors(face);
        Class<?>[] inside = face.getDeclaredClasses();
        holds("at most 11 classes inside", inside.length <= 11);
        members(face, true);
        for (Class<?> one : inside) {
            holds(one + " is static", Modifier.isStatic(one.getModifiers()));
            holds(one + " is not public", !Modifier.isPublic(one.getModifiers()));
            holds(one + " is not protected", !Modifier.isProtected(one.getModifiers()));
            members(one, false);
        }
        Check.finish("FaceTest");
    }

    private static void holds(String what, boolean is) {
        Check.due(what, is ? 1 : 0, 1);
    }

    private static void publicMethods(Class<?> face) {
        Set<String> found = new TreeSet<>();
        for (Method method : face.getDeclaredMethods()) {
            if (Modifier.isPublic(method.getModifiers())) {
                holds(method + " returns int", method.getReturnType() == int.class);
                holds(method + " is an ordinary one", method.getModifiers() == Modifier.PUBLIC);
                found.add(signature(method));
            }
        }
        holds("the methods " + found, found.equals(METHODS));
    }

    private static String signature(Method method) {
        StringBuilder text = new StringBuilder(method.getName()).append('(');
        for (Class<?> parameter : method.getParameterTypes()) {
            text.append(text.charAt(text.length() - 1) == '(' ? "" : ",").append(parameter.getName());
        }
        return text.append(')').toString();
    }

    private static void constants(Class<?> face) throws IllegalAccessException {
        Set<String> found = new TreeSet<>();
        for (Field field : face.getFields()) {
            found.add(field.getName() + "=" + field.getInt(null));
        }
        holds("the constants " + found, found.equals(CONSTANTS));
    }

    private static void constructors(Class<?> face) {
        Constructor<?>[] found = face.getDeclaredConstructors();
        Check.due("constructors", found.length, 1);
        Check.due("without parameters", found[0].getParameterCount(), 0);
        Check.due("public", found[0].getModifiers(), Modifier.PUBLIC);
    }

    private static void members(Class<?> one, boolean isFace) {
        int fields = 0;
        for (Field field : one.getDeclaredFields()) {
            boolean isStatic = Modifier.isStatic(field.getModifiers());
            boolean hidden = Modifier.isPrivate(field.getModifiers()) || Modifier.isPublic(field.getModifiers());
            holds(field + " is final if static", !isStatic || Modifier.isFinal(field.getModifiers()));
            holds(field + " is private or of the face", !isFace || hidden);
            fields += isStatic ? 0 : 1;
        }
        holds(one + " has at most 20 fields", fields <= 20);
        for (Method method : one.getDeclaredMethods()) {
            int modifiers = method.getModifiers();
            holds(method + " has at most 7 parameters", method.getParameterCount() <= 7);
            holds(method + " is private or public", !isFace || (modifiers & (Modifier.PRIVATE | Modifier.PUBLIC)) != 0);
            boolean isPublic = isFace && Modifier.isPublic(modifiers);
            holds(method + " bears no public name", isPublic || !bearsPublicName(method));
            holds(method + " is not of Object", !Set.of("equals", "hashCode", "toString").contains(method.getName()));
        }
    }

    private static boolean bearsPublicName(Method method) {
        for (String known : METHODS) {
            if (known.startsWith(method.getName() + "(")) {
                return true;
            }
        }
        return false;
    }
}
