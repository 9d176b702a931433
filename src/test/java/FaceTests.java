import java.io.IOException;
import java.lang.reflect.Constructor;
import java.lang.reflect.Field;
import java.lang.reflect.Member;
import java.lang.reflect.Method;
import java.lang.reflect.Modifier;
import java.nio.charset.StandardCharsets;
import java.nio.file.Files;
import java.nio.file.Paths;
import java.util.ArrayList;
import java.util.Arrays;
import java.util.HashSet;
import java.util.List;
import java.util.Set;
import java.util.TreeSet;

/**
 * The face is the document's, no less and no more (rule 1 of LANGUAGE.md), and
 * its calls stand in the document's order, under the headings that it names.
 */
public final class FaceTests {
    private static final List<String> FACE = Arrays.asList(
        "INVALID_ARGUMENT=-1000001", "NOT_POSSIBLE=-1000002",
        "LIMIT_REACHED=-1000003", "NOT_FOUND=-1000004",
        "new/0",
        "page/1", "link/3", "cut/2", "reader/1",
        "walk/2", "back/1", "search/2", "season/0", "set/2",
        "pageOf/2", "linkOf/3", "readerOf/2", "trail/2",
        "way/3", "would/2", "withers/1", "rescue/1", "hub/1", "mean/0", "count/1", "undo/0",
        "type/1", "clearText/0", "fault/1", "play/0");

    private static final String[] HEADINGS = {"pages, links, readers", "reading", "what there is", "what would be", "texts"};
    private static final String[][] CALLS = {
        {"page", "link", "cut", "reader"},
        {"walk", "back", "search", "season", "set"},
        {"pageOf", "linkOf", "readerOf", "trail"},
        {"way", "would", "withers", "rescue", "hub", "mean", "count", "undo"},
        {"type", "clearText", "fault", "play"}};

    private static int wrong = 0;

    public static void main(String[] args) throws IllegalAccessException, IOException {
        check("the class is public and final",
            Modifier.isPublic(LinkGarden.class.getModifiers())
                && Modifier.isFinal(LinkGarden.class.getModifiers()));
        Set<String> seen = visibleMembers();
        check("the face is " + new TreeSet<>(FACE) + ", not " + new TreeSet<>(seen),
            seen.equals(new HashSet<>(FACE)));
        checkInnerClasses();
        String document = read("../shared/DOC.md");
        String source = read("src/main/java/LinkGarden.java");
        checkOrder(document, source);
        for (int i = 0; i < HEADINGS.length; i++) {
            checkHeading(HEADINGS[i], CALLS[i], document, source);
        }
        System.out.println(wrong == 0 ? "the face is as due" : wrong + " faults of the face");
        if (wrong != 0) {
            System.exit(1);
        }
    }

    private static Set<String> visibleMembers() throws IllegalAccessException {
        Set<String> seen = new HashSet<>();
        for (Field field : LinkGarden.class.getDeclaredFields()) {
            if (isVisible(field)) {
                check(field.getName() + " is a public constant int", isPublicConstant(field));
                seen.add(field.getName() + "=" + field.getInt(null));
            }
        }
        for (Constructor<?> made : LinkGarden.class.getDeclaredConstructors()) {
            if (isVisible(made)) {
                check("the constructor is public", Modifier.isPublic(made.getModifiers()));
                seen.add("new/" + made.getParameterCount());
            }
        }
        for (Method method : LinkGarden.class.getDeclaredMethods()) {
            if (isVisible(method)) {
                check(method.getName() + " is public, of the object, over ints", isFaceMethod(method));
                seen.add(method.getName() + "/" + method.getParameterCount());
            }
        }
        return seen;
    }

    private static boolean isVisible(Member member) {
        return !member.isSynthetic() && !Modifier.isPrivate(member.getModifiers());
    }

    private static boolean isPublicConstant(Field field) {
        int modifiers = field.getModifiers();
        return Modifier.isPublic(modifiers) && Modifier.isStatic(modifiers)
            && Modifier.isFinal(modifiers) && field.getType() == int.class;
    }

    private static boolean isFaceMethod(Method method) {
        boolean ints = method.getReturnType() == int.class;
        for (Class<?> type : method.getParameterTypes()) {
            ints &= type == int.class;
        }
        return ints && Modifier.isPublic(method.getModifiers())
            && !Modifier.isStatic(method.getModifiers());
    }

    private static void checkInnerClasses() {
        List<String> faceNames = new ArrayList<>();
        for (String member : FACE) {
            faceNames.add(member.replaceAll("[/=].*", ""));
        }
        for (Class<?> inner : LinkGarden.class.getDeclaredClasses()) {
            int modifiers = inner.getModifiers();
            check(inner.getName() + " is static and not public",
                Modifier.isStatic(modifiers) && !Modifier.isPublic(modifiers)
                    && !Modifier.isProtected(modifiers));
            for (Method method : inner.getDeclaredMethods()) {
                check(inner.getName() + "." + method.getName() + " bears a name of its own",
                    !faceNames.contains(method.getName()));
            }
        }
    }

    /** Each row of the document's face is in the source, behind the one ahead of it. */
    private static void checkOrder(String document, String source) {
        int at = 0;
        int rows = 0;
        String face = document.substring(document.indexOf("```java"), document.indexOf("## Terms"));
        for (String row : face.split("\n")) {
            if (row.startsWith("    public ")) {
                int place = source.indexOf(row.replace(");", ") {"), at);
                check("the source has, in its place: " + row.trim(), place >= 0);
                at = Math.max(at, place);
                rows++;
            }
        }
        check("the document has the face's " + FACE.size() + " rows", rows == FACE.size());
    }

    /** The document asks for the heading, and the source has it ahead of its calls and no others. */
    private static void checkHeading(String heading, String[] calls, String document, String source) {
        String sentence = "Ahead of the calls `" + String.join("`, `", calls) + "` the interface says: ---- " + heading + ".";
        check("the document says: " + sentence, document.contains(sentence));
        int start = source.indexOf("    // ---- " + heading + "\n");
        check("the source has the heading " + heading, start >= 0);
        int next = source.indexOf("    // ---- ", start + 1);
        String part = source.substring(Math.max(start, 0), next < 0 ? source.length() : next);
        int faceCalls = part.split("\n    public int ", -1).length - 1;
        check(heading + " has " + calls.length + " calls, not " + faceCalls, faceCalls == calls.length);
        for (String call : calls) {
            check(call + " is under " + heading, part.contains("\n    public int " + call + "("));
        }
    }

    private static String read(String file) throws IOException {
        return new String(Files.readAllBytes(Paths.get(file)), StandardCharsets.UTF_8);
    }

    private static void check(String what, boolean holds) {
        if (!holds) {
            wrong++;
            System.out.println("not so: " + what);
        }
    }
}
