import java.io.IOException;
import java.nio.charset.StandardCharsets;
import java.nio.file.Files;
import java.nio.file.Paths;
import java.util.ArrayList;
import java.util.List;

/**
 * A garden under test with all calls that were made of it, so that a twin can
 * be made by making them again. A call is written as its name and its numbers,
 * "link 0 1 5"; MIN and MAX stand for the least and the greatest int.
 */
final class Run {
    static final int INVALID = LinkGarden.INVALID_ARGUMENT;
    static final int NOT_POSSIBLE = LinkGarden.NOT_POSSIBLE;
    static final int LIMIT = LinkGarden.LIMIT_REACHED;
    static final int NOT_FOUND = LinkGarden.NOT_FOUND;

    /** What an object answers to later calls is free, so no test may look at it. */
    private static final int MOST_CALLS = 512;
    private static final int STATES = 4;
    private static final int SHOWN = 4;

    private static String document = "";
    private static String sentence = "";
    private static int sentences = 0;
    private static int wrong = 0;

    private final LinkGarden garden = new LinkGarden();
    private final List<String> calls = new ArrayList<>();
    private int made = 0;

    private Run() {
    }

    // ---- what is tested

    /** Names the sentence of the document that the checks below are about; the document must have it. */
    static void sentence(String section, String words) throws IOException {
        sentence = section + ", \"" + words + "\"";
        sentences++;
        if (!textOf(section).contains(words)) {
            fault("the document has no such sentence");
        }
    }

    private static String textOf(String section) throws IOException {
        if (document.isEmpty()) {
            byte[] bytes = Files.readAllBytes(Paths.get("../shared/DOC.md"));
            document = new String(bytes, StandardCharsets.UTF_8).replaceAll("\\n## ", "\1").replaceAll("\\s+", " ");
        }
        for (String part : document.split("\1")) {
            if (part.startsWith(section + ":") || part.startsWith(section + " ")) {
                return part;
            }
        }
        return "";
    }

    static void end() {
        System.out.println(sentences + " sentences tested, " + wrong + " answers are not as due");
        if (wrong != 0) {
            System.exit(1);
        }
    }

    private static void fault(String what) {
        wrong++;
        System.out.println(sentence + ": " + what);
    }

    // ---- gardens

    static Run garden(String... calls) {
        return new Run().does(calls);
    }

    /** A garden with so many pages without words. */
    static Run pages(int number) {
        Run run = new Run();
        for (int page = 0; page < number; page++) {
            run.does("page 0");
        }
        return run;
    }

    /** A garden with 12 pages and so many links, from the pages 0, 1, 2 and 3; of 40 none leads from 3 to 8. */
    static Run links(int number, int strength) {
        Run run = pages(12);
        int laid = 0;
        for (int place = 0; laid < number; place++) {
            if (place / 12 != place % 12) {
                run.does("link " + place / 12 + " " + place % 12 + " " + strength);
                laid++;
            }
        }
        return run;
    }

    /** A garden that has made the same calls. */
    Run twin() {
        Run run = new Run();
        for (String call : calls) {
            run.ask(call);
        }
        return run;
    }

    // ---- calls

    /** Makes calls none of which may be refused. */
    Run does(String... more) {
        for (String call : more) {
            int answer = ask(call);
            if (answer < 0) {
                fault(this + ": " + call + " answered " + answer + " and should be possible");
            }
        }
        return this;
    }

    Run types(String text) {
        for (int i = 0; i < text.length(); i++) {
            does("type " + (int) text.charAt(i));
        }
        return this;
    }

    Run due(String call, int want) {
        int got = ask(call);
        if (got != want) {
            fault(this + ": " + call + " answered " + got + ", due is " + want);
        }
        return this;
    }

    /** The call returns the error, and changes nothing: neither the state nor the history nor the text. */
    Run refuses(String call, int error) {
        due(call, error);
        calls.remove(calls.size() - 1);
        return leaves(call);
    }

    /** The call changes nothing, whatever it answers. */
    Run leaves(String call) {
        for (int undos = 0; undos <= STATES; undos++) {
            Run without = twin();
            Run with = twin();
            with.ask(call);
            if (!without.lookAfter(undos).equals(with.lookAfter(undos))) {
                fault(this + ": " + call + " has changed something, seen after " + undos + " undos");
            }
        }
        return this;
    }

    /** The call is a change that undo takes back, and nothing but it; at most the oldest state is lost. */
    Run records(String call) {
        int states = Math.min(twin().ask("count 11") + 1, STATES);
        twin().does(call).due("count 11", states).due("undo", states - 1);
        for (int undos = 0; undos < states; undos++) {
            String before = twin().undo(undos).look();
            String after = twin().does(call).undo(undos + 1).look();
            if (!before.equals(after)) {
                fault(this + ": " + call + " is not undone, seen after " + undos + " more undos");
            }
        }
        return this;
    }

    /** The call makes a difference that can be seen. */
    Run changes(String call) {
        if (twin().look().equals(twin().does(call).look())) {
            fault(this + ": " + call + " changes nothing");
        }
        return this;
    }

    private Run undo(int times) {
        for (int i = 0; i < times; i++) {
            does("undo");
        }
        return this;
    }

    /** The call is no change: nothing of it is recorded. */
    Run recordsNothing(String call) {
        int states = twin().ask("count 11");
        Run asked = twin();
        asked.ask(call);
        asked.due("count 11", states);
        return this;
    }

    /** The question, whatever it answers, makes no difference for the change that follows. */
    Run forgets(String question, String change) {
        Run asked = twin();
        asked.ask(question);
        asked.does(change).looksLike(twin().does(change));
        return this;
    }

    /** All that is seen of both is the same, but for the history. */
    void looksLike(Run other) {
        String both = this + " and " + other;
        if (!look().equals(other.look())) {
            fault(both + " are not the same");
        }
    }

    private String lookAfter(int undos) {
        StringBuilder seen = new StringBuilder();
        for (int i = 0; i < undos; i++) {
            seen.append(ask("undo")).append(' ');
        }
        return seen.append(ask("count 11")).append(' ').append(look()).toString();
    }

    /** All that the calls tell but the length of the history; the last of them plays the text, as only so it is seen. */
    String look() {
        StringBuilder seen = new StringBuilder();
        for (int what = 0; what <= 22; what++) {
            if (what != 11) {
                see(seen, "count " + what);
            }
        }
        int pages = ask("count 0");
        for (int page = 0; page < pages; page++) {
            for (int what = 0; what < 7; what++) {
                see(seen, "pageOf " + page + " " + what);
            }
            lookAtLinks(seen, page, pages);
        }
        int readers = ask("count 2");
        for (int reader = 0; reader < readers; reader++) {
            lookAtReader(seen, reader);
        }
        for (int what = 0; what < 3; what++) {
            see(seen, "fault " + what);
        }
        see(seen, "play");
        see(seen, "count 0");
        see(seen, "count 1");
        see(seen, "count 3");
        return seen.toString();
    }

    private void lookAtLinks(StringBuilder seen, int from, int pages) {
        int targets = ask("pageOf " + from + " 1");
        for (int to = 0; to < pages; to++) {
            if ((targets >> to & 1) != 0) {
                for (int what = 0; what < 3; what++) {
                    see(seen, "linkOf " + from + " " + to + " " + what);
                }
            }
        }
    }

    private void lookAtReader(StringBuilder seen, int reader) {
        for (int what = 0; what < 5; what++) {
            see(seen, "readerOf " + reader + " " + what);
        }
        for (int index = 0; index < 9; index++) {
            see(seen, "trail " + reader + " " + index);
        }
    }

    private void see(StringBuilder seen, String call) {
        seen.append(call).append('=').append(ask(call)).append(' ');
    }

    private int ask(String call) {
        if (made == MOST_CALLS) {
            throw new IllegalStateException("the test makes too many calls: " + sentence);
        }
        made++;
        calls.add(call);
        String[] parts = call.split(" ");
        int[] c = new int[3];
        for (int i = 1; i < parts.length; i++) {
            c[i - 1] = number(parts[i]);
        }
        return ask(parts[0], c[0], c[1], c[2]);
    }

    private static int number(String part) {
        switch (part) {
            case "MIN": return Integer.MIN_VALUE;
            case "MAX": return Integer.MAX_VALUE;
            default: return Integer.parseInt(part);
        }
    }

    private int ask(String name, int a, int b, int c) {
        switch (name) {
            case "page": return garden.page(a);
            case "link": return garden.link(a, b, c);
            case "cut": return garden.cut(a, b);
            case "reader": return garden.reader(a);
            case "walk": return garden.walk(a, b);
            case "back": return garden.back(a);
            case "search": return garden.search(a, b);
            case "season": return garden.season();
            case "set": return garden.set(a, b);
            case "pageOf": return garden.pageOf(a, b);
            case "linkOf": return garden.linkOf(a, b, c);
            case "readerOf": return garden.readerOf(a, b);
            case "trail": return garden.trail(a, b);
            case "way": return garden.way(a, b, c);
            case "would": return garden.would(a, b);
            case "withers": return garden.withers(a);
            case "rescue": return garden.rescue(a);
            case "hub": return garden.hub(a);
            case "mean": return garden.mean();
            case "count": return garden.count(a);
            case "undo": return garden.undo();
            case "type": return garden.type(a);
            case "clearText": return garden.clearText();
            case "fault": return garden.fault(a);
            case "play": return garden.play();
            default: throw new IllegalStateException("no such call: " + name);
        }
    }

    /** The latest calls, to find the place in the test. */
    @Override
    public String toString() {
        int size = calls.size();
        return ".. " + calls.subList(Math.max(0, size - SHOWN), size);
    }
}
