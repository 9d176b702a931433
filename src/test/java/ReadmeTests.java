import java.io.IOException;
import java.nio.charset.StandardCharsets;
import java.nio.file.Files;
import java.nio.file.Paths;
import java.util.ArrayList;
import java.util.List;

/** The examples in README.md: each row is done, and answers as the comment behind it says. */
public final class ReadmeTests {
    private static final String COMMENT = "// ";

    private static final List<String> rows = new ArrayList<>();
    private static int wrong = 0;

    public static void main(String[] args) throws IOException {
        readRows();
        LinkGarden garden = new LinkGarden();
        int home = garden.page(1);
        row("int home = garden.page(1);", home);
        int other = garden.page(2);
        row("int other = garden.page(2);", other);
        row("garden.link(home, other, 5);", garden.link(home, other, 5));
        int reader = garden.reader(home);
        row("int reader = garden.reader(home);", reader);
        row("garden.walk(reader, other);", garden.walk(reader, other));
        row("garden.search(reader, 0);", garden.search(reader, 0));
        row("garden.withers(0);", garden.withers(0));
        row("garden.season();", garden.season());
        row("garden.undo();", garden.undo());
        row("garden.linkOf(other, home, 0);", garden.linkOf(other, home, 0));
        row("garden.walk(reader, home);", garden.walk(reader, home));
        for (char sign : "l0,1,7;w0,1;e;".toCharArray()) {
            garden.type(sign);
        }
        row("garden.fault(0);", garden.fault(0));
        row("garden.play();", garden.play());
        for (String left : rows) {
            fault("not tested: " + left);
        }
        System.out.println(wrong == 0 ? "the examples answer as README.md says" : wrong + " faults of the examples");
        if (wrong != 0) {
            System.exit(1);
        }
    }

    private static void readRows() throws IOException {
        byte[] bytes = Files.readAllBytes(Paths.get("README.md"));
        for (String line : new String(bytes, StandardCharsets.UTF_8).split("\n")) {
            if (line.contains(COMMENT)) {
                rows.add(line);
            }
        }
    }

    /** The next row has this call, and its comment says this answer. */
    private static void row(String call, int answer) {
        String row = rows.isEmpty() ? "" : rows.remove(0);
        if (!row.startsWith(call)) {
            fault("due is a row for " + call + ", there is: " + row);
            return;
        }
        String said = row.substring(row.indexOf(COMMENT) + COMMENT.length()).replaceAll(":.*", "");
        if (!said.equals(named(answer))) {
            fault(row + " answered " + answer);
        }
    }

    private static String named(int answer) {
        switch (answer) {
            case LinkGarden.INVALID_ARGUMENT: return "LinkGarden.INVALID_ARGUMENT";
            case LinkGarden.NOT_POSSIBLE: return "LinkGarden.NOT_POSSIBLE";
            case LinkGarden.LIMIT_REACHED: return "LinkGarden.LIMIT_REACHED";
            case LinkGarden.NOT_FOUND: return "LinkGarden.NOT_FOUND";
            default: return Integer.toString(answer);
        }
    }

    private static void fault(String what) {
        wrong++;
        System.out.println(what);
    }
}
