import java.lang.reflect.Constructor;
import java.lang.reflect.Field;
import java.lang.reflect.Member;
import java.lang.reflect.Method;
import java.lang.reflect.Modifier;
import java.util.ArrayList;
import java.util.Arrays;
import java.util.HashSet;
import java.util.List;
import java.util.Set;
import java.util.TreeSet;

/** The face is the document's, no less and no more (rule 1 of LANGUAGE.md). */
public final class FaceTests {
    private static final List<String> FACE = Arrays.asList(
        "INVALID_ARGUMENT=-1000001", "NOT_POSSIBLE=-1000002",
        "LIMIT_REACHED=-1000003", "NOT_FOUND=-1000004",
        "new/0",
        "page/1", "link/3", "cut/2", "reader/1",
        "walk/2", "back/1", "search/2", "season/0", "set/2",
        "pageOf/2", "linkOf/3", "readerOf/2", "trail/2",
        "way/3", "would/2", "withers/1", "rescue/1", "hub/1", "mean/0", "count/1", "undo/0",
        "type/1", "clearText/0", "fault/1", "play/0");

    private static int wrong = 0;

    public static void main(String[] args) throws IllegalAccessException {
        check("the class is public and final",
            Modifier.isPublic(LinkGarden.class.getModifiers())
                && Modifier.isFinal(LinkGarden.class.getModifiers()));
        Set<String> seen = visibleMembers();
        check("the face is " + new TreeSet<>(FACE) + ", not " + new TreeSet<>(seen),
            seen.equals(new HashSet<>(FACE)));
        checkInnerClasses();
        System.out.println(wrong == 0 ? "the face is as due" : wrong + " faults of the face");
        if (wrong != 0) {
            System.exit(1);
        }
    }

    private static Set<String> visibleMembers() throws IllegalAccessException {
        Set<String> seen = new HashSet<>();
        for (Field field : LinkGarden.class.getDeclaredFields()) {
            if (isVisible(field)) {
                check(field.getName() + " is a public constant int", isPublicConstant(field));
                seen.add(field.getName() + "=" + field.getInt(null));
            }
        }
        for (Constructor<?> made : LinkGarden.class.getDeclaredConstructors()) {
            if (isVisible(made)) {
                check("the constructor is public", Modifier.isPublic(made.getModifiers()));
                seen.add("new/" + made.getParameterCount());
            }
        }
        for (Method method : LinkGarden.class.getDeclaredMethods()) {
            if (isVisible(method)) {
                check(method.getName() + " is public, of the object, over ints", isFaceMethod(method));
                seen.add(method.getName() + "/" + method.getParameterCount());
            }
        }
        return seen;
    }

    private static boolean isVisible(Member member) {
        return !member.isSynthetic() && !Modifier.isPrivate(member.getModifiers());
    }

    private static boolean isPublicConstant(Field field) {
        int modifiers = field.getModifiers();
        return Modifier.isPublic(modifiers) && Modifier.isStatic(modifiers)
            && Modifier.isFinal(modifiers) && field.getType() == int.class;
    }

    private static boolean isFaceMethod(Method method) {
        boolean ints = method.getReturnType() == int.class;
        for (Class<?> type : method.getParameterTypes()) {
            ints &= type == int.class;
        }
        return ints && Modifier.isPublic(method.getModifiers())
            && !Modifier.isStatic(method.getModifiers());
    }

    private static void checkInnerClasses() {
        List<String> faceNames = new ArrayList<>();
        for (String member : FACE) {
            faceNames.add(member.replaceAll("[/=].*", ""));
        }
        for (Class<?> inner : LinkGarden.class.getDeclaredClasses()) {
            int modifiers = inner.getModifiers();
            check(inner.getName() + " is static and not public",
                Modifier.isStatic(modifiers) && !Modifier.isPublic(modifiers)
                    && !Modifier.isProtected(modifiers));
            for (Method method : inner.getDeclaredMethods()) {
                check(inner.getName() + "." + method.getName() + " bears a name of its own",
                    !faceNames.contains(method.getName()));
            }
        }
    }

    private static void check(String what, boolean holds) {
        if (!holds) {
            wrong++;
            System.out.println("not so: " + what);
        }
    }
}
