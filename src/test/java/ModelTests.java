import java.util.ArrayList;
import java.util.LinkedList;
import java.util.List;
import java.util.TreeMap;
import java.util.TreeSet;

/**
 * Long runs of calls, each compared with a second garden that is written in
 * another way from the document: lists, maps, whole copies for the history,
 * and ways that are found by looking at all of them.
 */
public final class ModelTests {
    private static final int CALLS = 512;
    private static final int RUNS = 400;
    private static final int PLAY = 24;
    private static final int INVALID = -1000001;
    private static final int NOT_POSSIBLE = -1000002;
    private static final int LIMIT = -1000003;
    private static final int NOT_FOUND = -1000004;

    private static long seed = 1;

    public static void main(String[] args) {
        for (int run = 0; run < RUNS; run++) {
            seed = run * 7919L + 17;
            if (!runIsRight(run)) {
                System.exit(1);
            }
        }
        System.out.println(RUNS + " runs of " + CALLS + " calls are as the second garden's");
    }

    private static boolean runIsRight(int run) {
        LinkGarden garden = new LinkGarden();
        Model model = new Model();
        LinkedList<Integer> typing = new LinkedList<>();
        // some runs begin crowded, so that limits, long trails and pruning are met
        int crowded = run % 4 == 0 ? 60 : 0;
        for (int i = 0; i < CALLS; i++) {
            int[] call = i < crowded ? crowdingCall(i) : anyCall(run, typing);
            int got = ask(garden, call);
            int want = model.ask(call);
            if (got != want) {
                System.out.println("run " + run + ", call " + i + ": " + java.util.Arrays.toString(call)
                    + " answered " + got + ", the second garden " + want);
                return false;
            }
        }
        return true;
    }

    private static int[] crowdingCall(int i) {
        if (i < 12) {
            return new int[] {0, 1 << below(3) | 1 << below(16), 0, 0};
        }
        if (i < 16) {
            return new int[] {3, below(12), 0, 0};
        }
        return new int[] {1, below(6), below(12), 1 + below(20)};
    }

    private static int[] anyCall(int run, LinkedList<Integer> typing) {
        if (!typing.isEmpty()) {
            return new int[] {21, typing.removeFirst(), 0, 0};
        }
        int kind = below(41);
        if (kind > PLAY) {
            // the calls that change most are called more often
            int[] favoured = {1, 1, 4, 4, 4, 4, 5, 6, 6, 7, 0, 1, 3, 8, 4, 6};
            kind = favoured[kind - PLAY - 1];
        }
        if (kind == 20) {
            kind = below(3) == 0 ? 20 : 4;
        }
        if (kind == 21) {
            kind = below(4) == 0 ? 21 : 22;
            writeText(typing);
        }
        int pages = run % 3 == 0 ? 5 : 12;
        return new int[] {kind, first(kind, pages), second(kind, pages), third(kind)};
    }

    private static int first(int kind, int pages) {
        if (below(50) == 0) {
            return extreme();
        }
        switch (kind) {
            case 0: return below(3) == 0 ? below(65536) : 1 << below(5);
            case 4: case 5: case 6: case 11: case 12: case 14: return below(below(6) == 0 ? 5 : 2);
            case 8: return below(4);
            case 15: case 16: case 17: return below(4) - (below(9) == 0 ? 1 : 0);
            case 19: return below(24);
            case 21: return 30 + below(98);
            case 23: return below(4) - (below(9) == 0 ? 1 : 0);
            default: return below(pages);
        }
    }

    private static int second(int kind, int pages) {
        if (below(50) == 0) {
            return extreme();
        }
        switch (kind) {
            case 6: case 14: return below(5);
            case 8: return below(5) == 0 ? below(60) : below(6);
            case 9: return below(8);
            case 11: return below(6);
            case 12: return below(10);
            default: return below(pages);
        }
    }

    private static int third(int kind) {
        if (below(50) == 0) {
            return extreme();
        }
        switch (kind) {
            case 1: return below(3) == 0 ? below(101) : 1 + below(12);
            case 10: return below(4);
            default: return below(7) - 1;
        }
    }

    private static int extreme() {
        int[] extremes = {-1, -2, Integer.MIN_VALUE, Integer.MAX_VALUE, 12, 16, 65536, 1 << 30};
        return extremes[below(extremes.length)];
    }

    private static void writeText(LinkedList<Integer> typing) {
        StringBuilder text = new StringBuilder();
        for (int orders = below(7); orders > 0; orders--) {
            text.append(order());
        }
        if (text.length() > 0 && below(6) == 0) {
            text.setCharAt(below(text.length()), "plwsbe,;0129x "  .charAt(below(14)));
        }
        if (text.length() > 0 && below(8) == 0) {
            text.setLength(below(text.length()));
        }
        for (int i = 0; i < text.length(); i++) {
            typing.add((int) text.charAt(i));
        }
    }

    private static String order() {
        switch (below(6)) {
            case 0: return "p" + (below(4) == 0 ? "000" + below(20) : below(70)) + ";";
            case 1: return "l" + below(6) + "," + below(6) + "," + (1 + below(40)) + ";";
            case 2: return "w" + below(2) + "," + below(6) + ";";
            case 3: return "s0" + below(2) + "," + below(5) + ";";
            case 4: return "b" + below(2) + ";";
            default: return "e;";
        }
    }

    private static int below(int bound) {
        seed = seed * 6364136223846793005L + 1442695040888963407L;
        return (int) ((seed >>> 33) % bound);
    }

    private static int ask(LinkGarden x, int[] c) {
        switch (c[0]) {
            case 0: return x.page(c[1]);
            case 1: return x.link(c[1], c[2], c[3]);
            case 2: return x.cut(c[1], c[2]);
            case 3: return x.reader(c[1]);
            case 4: return x.walk(c[1], c[2]);
            case 5: return x.back(c[1]);
            case 6: return x.search(c[1], c[2]);
            case 7: return x.season();
            case 8: return x.set(c[1], c[2]);
            case 9: return x.pageOf(c[1], c[2]);
            case 10: return x.linkOf(c[1], c[2], c[3]);
            case 11: return x.readerOf(c[1], c[2]);
            case 12: return x.trail(c[1], c[2]);
            case 13: return x.way(c[1], c[2], c[3]);
            case 14: return x.would(c[1], c[2]);
            case 15: return x.withers(c[1]);
            case 16: return x.rescue(c[1]);
            case 17: return x.hub(c[1]);
            case 18: return x.mean();
            case 19: return x.count(c[1]);
            case 20: return x.undo();
            case 21: return x.type(c[1]);
            case 22: return x.clearText();
            case 23: return x.fault(c[1]);
            default: return x.play();
        }
    }

    /** A link of the second garden. */
    private static final class Link {
        int strength;
        int walks;
        boolean walked;

        Link(int strength, int walks, boolean walked) {
            this.strength = strength;
            this.walks = walks;
            this.walked = walked;
        }
    }

    /** A reader of the second garden; the first of the trail is the latest. */
    private static final class Person {
        int page;
        int walks;
        int searches;
        LinkedList<Integer> trail = new LinkedList<>();

        Person copy() {
            Person other = new Person();
            other.page = page;
            other.walks = walks;
            other.searches = searches;
            other.trail = new LinkedList<>(trail);
            return other;
        }

        void go(int to) {
            trail.addFirst(page);
            if (trail.size() > 8) {
                trail.removeLast();
            }
            page = to;
        }
    }

    /** What one state of the second garden is. */
    private static final class State {
        List<Integer> words = new ArrayList<>();
        List<Integer> came = new ArrayList<>();
        TreeMap<Integer, Link> links = new TreeMap<>();
        List<Person> people = new ArrayList<>();
        int[] settings = {5, 3, 4};
        int seasons;
        int walks;
        int sown;
        int withered;
        int pruned;

        State copy() {
            State other = new State();
            other.words = new ArrayList<>(words);
            other.came = new ArrayList<>(came);
            for (int key : links.keySet()) {
                Link link = links.get(key);
                other.links.put(key, new Link(link.strength, link.walks, link.walked));
            }
            for (Person person : people) {
                other.people.add(person.copy());
            }
            other.settings = settings.clone();
            other.seasons = seasons;
            other.walks = walks;
            other.sown = sown;
            other.withered = withered;
            other.pruned = pruned;
            return other;
        }

        boolean page(int page) {
            return 0 <= page && page < words.size();
        }

        boolean person(int reader) {
            return 0 <= reader && reader < people.size();
        }

        static int key(int from, int to) {
            return from * 100 + to;
        }

        /** One of the calls that an order may be, too, or another change. */
        int change(int[] c) {
            switch (c[0]) {
                case 0: return addPage(c[1]);
                case 1: return lay(c[1], c[2], c[3]);
                case 2: return cut(c[1], c[2]);
                case 3: return addPerson(c[1]);
                case 4: return walk(c[1], c[2]);
                case 5: return back(c[1]);
                case 6: return search(c[1], c[2]);
                case 7: return season();
                default: return set(c[1], c[2]);
            }
        }

        int addPage(int set) {
            if (set < 0 || set > 65535) return INVALID;
            if (words.size() >= 12) return LIMIT;
            words.add(set);
            came.add(0);
            return words.size() - 1;
        }

        int lay(int from, int to, int strength) {
            if (!page(from) || !page(to) || from == to || strength < 1 || strength > 99) return INVALID;
            Link link = links.get(key(from, to));
            if (link != null) {
                int old = link.strength;
                link.strength = strength;
                return old;
            }
            if (links.size() >= 40) return LIMIT;
            links.put(key(from, to), new Link(strength, 0, false));
            return 0;
        }

        int cut(int from, int to) {
            if (!page(from) || !page(to)) return INVALID;
            Link link = links.get(key(from, to));
            if (link == null || link.walked) return NOT_POSSIBLE;
            links.remove(key(from, to));
            return link.strength;
        }

        int addPerson(int page) {
            if (!page(page)) return INVALID;
            if (people.size() >= 4) return LIMIT;
            Person person = new Person();
            person.page = page;
            people.add(person);
            return people.size() - 1;
        }

        int walk(int reader, int to) {
            if (!person(reader) || !page(to)) return INVALID;
            Person person = people.get(reader);
            Link link = links.get(key(person.page, to));
            if (link == null) return NOT_POSSIBLE;
            link.strength += settings[0];
            if (link.strength > 99) link.strength = 99;
            link.walked = true;
            link.walks++;
            person.walks++;
            walks++;
            person.go(to);
            came.set(to, came.get(to) + 1);
            return link.strength;
        }

        int back(int reader) {
            if (!person(reader)) return INVALID;
            Person person = people.get(reader);
            if (person.trail.isEmpty()) return NOT_POSSIBLE;
            person.page = person.trail.removeFirst();
            came.set(person.page, came.get(person.page) + 1);
            return person.page;
        }

        int search(int reader, int word) {
            int to = would(reader, word);
            if (to == NOT_FOUND) return NOT_POSSIBLE;
            if (to < 0) return to;
            Person person = people.get(reader);
            if (!links.containsKey(key(person.page, to)) && links.size() < 40) {
                links.put(key(person.page, to), new Link(1, 0, false));
                sown++;
            }
            person.go(to);
            person.searches++;
            came.set(to, came.get(to) + 1);
            return to;
        }

        int would(int reader, int word) {
            if (!person(reader) || word < 0 || word > 15) return INVALID;
            int from = people.get(reader).page;
            int best = NOT_FOUND;
            int bestLength = Integer.MAX_VALUE;
            for (int page = words.size() - 1; page >= 0; page--) {
                if (page == from || (words.get(page) >> word & 1) == 0) continue;
                List<Integer> way = shortest(from, page);
                int length = way == null ? 1000 : way.size();
                if (length <= bestLength) {
                    best = page;
                    bestLength = length;
                }
            }
            return best;
        }

        /** Ways by their number of links, those to the lowest pages first, each page once. */
        List<Integer> shortest(int from, int to) {
            List<List<Integer>> ways = new ArrayList<>();
            ways.add(List.of(from));
            TreeSet<Integer> seen = new TreeSet<>(List.of(from));
            for (int i = 0; i < ways.size(); i++) {
                List<Integer> way = ways.get(i);
                int end = way.get(way.size() - 1);
                if (end == to) return way;
                for (int next = 0; next < words.size(); next++) {
                    if (links.containsKey(key(end, next)) && seen.add(next)) {
                        List<Integer> longer = new ArrayList<>(way);
                        longer.add(next);
                        ways.add(longer);
                    }
                }
            }
            return null;
        }

        int season() {
            int gone = 0;
            for (int key : new ArrayList<>(links.keySet())) {
                Link link = links.get(key);
                if (!link.walked) link.strength -= settings[1];
                if (link.strength < 1) {
                    links.remove(key);
                    withered++;
                    gone++;
                }
            }
            for (int page = 0; page < words.size(); page++) {
                while (from(page).size() > settings[2]) {
                    int weakest = -1;
                    for (int key : from(page)) {
                        Link link = links.get(key);
                        if (!link.walked && (weakest < 0 || link.strength < links.get(weakest).strength)) {
                            weakest = key;
                        }
                    }
                    if (weakest < 0) break;
                    links.remove(weakest);
                    pruned++;
                    gone++;
                }
            }
            for (Link link : links.values()) link.walked = false;
            seasons++;
            return gone;
        }

        List<Integer> from(int page) {
            List<Integer> keys = new ArrayList<>();
            for (int key : links.keySet()) if (key / 100 == page) keys.add(key);
            return keys;
        }

        int set(int what, int value) {
            if (what < 0 || what > 2) return INVALID;
            if (value < (what == 2 ? 1 : 0) || value > (what == 2 ? 11 : 50)) return INVALID;
            int old = settings[what];
            settings[what] = value;
            return old;
        }

        int pageOf(int page, int what) {
            if (!page(page) || what < 0 || what > 6) return INVALID;
            int out = 0, in = 0, strength = 0, readers = 0, reached = 0;
            for (int key : links.keySet()) {
                if (key / 100 == page) out |= 1 << key % 100;
                if (key % 100 == page) {
                    in |= 1 << key / 100;
                    strength += links.get(key).strength;
                }
            }
            for (Person person : people) if (person.page == page) readers++;
            for (int to = 0; to < words.size(); to++) if (shortest(page, to) != null) reached |= 1 << to;
            return new int[] {words.get(page), out, in, strength, readers, came.get(page), reached}[what];
        }

        int linkOf(int from, int to, int what) {
            if (!page(from) || !page(to) || what < 0 || what > 2) return INVALID;
            Link link = links.get(key(from, to));
            if (link == null) return NOT_FOUND;
            return new int[] {link.strength, link.walked ? 1 : 0, link.walks}[what];
        }

        int readerOf(int reader, int what) {
            if (!person(reader) || what < 0 || what > 4) return INVALID;
            Person person = people.get(reader);
            int set = 0;
            for (int page : person.trail) set |= 1 << page;
            return new int[] {person.page, person.trail.size(), person.walks, person.searches, set}[what];
        }

        int trail(int reader, int index) {
            if (!person(reader) || index < 0) return INVALID;
            LinkedList<Integer> trail = people.get(reader).trail;
            return index < trail.size() ? trail.get(index) : NOT_FOUND;
        }

        int way(int from, int to, int index) {
            if (!page(from) || !page(to) || index < -1) return INVALID;
            List<Integer> way = shortest(from, to);
            if (way == null || index >= way.size()) return NOT_FOUND;
            return index < 0 ? way.size() - 1 : way.get(index);
        }

        int withers(int what) {
            if (what < 0 || what > 2) return INVALID;
            State then = copy();
            int gone = then.season();
            return new int[] {gone, then.withered - withered, then.pruned - pruned}[what];
        }

        int rescue(int what) {
            if (what < 0 || what > 1) return INVALID;
            State then = copy();
            then.season();
            int best = -1;
            for (int key : links.keySet()) {
                if (then.links.containsKey(key) || links.get(key).walked) continue;
                if (best < 0 || links.get(key).strength > links.get(best).strength) best = key;
            }
            return best < 0 ? NOT_FOUND : what == 0 ? best / 100 : best % 100;
        }

        int hub(int what) {
            if (what < 0 || what > 1) return INVALID;
            if (links.isEmpty()) return NOT_FOUND;
            int best = 0;
            for (int page = 0; page < words.size(); page++) {
                if (pageOf(page, 3) > pageOf(best, 3)) best = page;
            }
            return what == 0 ? best : pageOf(best, 3);
        }

        int mean() {
            if (links.isEmpty()) return NOT_FOUND;
            float sum = 0;
            for (Link link : links.values()) sum += link.strength;
            return Float.floatToIntBits(sum / links.size());
        }

        int count(int what) {
            int walked = 0, noneFrom = 0, noneTo = 0;
            for (Link link : links.values()) if (link.walked) walked++;
            for (int page = 0; page < words.size(); page++) {
                if (pageOf(page, 1) == 0) noneFrom |= 1 << page;
                if (pageOf(page, 2) == 0) noneTo |= 1 << page;
            }
            if (what >= 20) return what > 22 ? INVALID : settings[what - 20];
            if (what < 0 || what > 10) return INVALID;
            return new int[] {words.size(), links.size(), people.size(), seasons, walked, noneFrom, noneTo,
                walks, sown, withered, pruned}[what];
        }
    }

    /** The second garden: its state, its history and its text. */
    private static final class Model {
        State now = new State();
        LinkedList<State> history = new LinkedList<>();
        StringBuilder text = new StringBuilder();

        int ask(int[] c) {
            if (c[0] <= 8) {
                State before = now.copy();
                return keep(before, now.change(c));
            }
            switch (c[0]) {
                case 9: return now.pageOf(c[1], c[2]);
                case 10: return now.linkOf(c[1], c[2], c[3]);
                case 11: return now.readerOf(c[1], c[2]);
                case 12: return now.trail(c[1], c[2]);
                case 13: return now.way(c[1], c[2], c[3]);
                case 14: return now.would(c[1], c[2]);
                case 15: return now.withers(c[1]);
                case 16: return now.rescue(c[1]);
                case 17: return now.hub(c[1]);
                case 18: return now.mean();
                case 19: return c[1] == 11 ? history.size() : c[1] == 12 ? text.length() : now.count(c[1]);
                case 20: return undo();
                case 21: return type(c[1]);
                case 22: return clear();
                case 23: return fault(c[1]);
                default: return play();
            }
        }

        int keep(State before, int answer) {
            if (answer >= 0) {
                history.addLast(before);
                if (history.size() > 4) history.removeFirst();
            }
            return answer;
        }

        int undo() {
            if (history.isEmpty()) return NOT_POSSIBLE;
            now = history.removeLast();
            return history.size();
        }

        int type(int sign) {
            if (sign < 32 || sign > 126) return INVALID;
            if (text.length() >= 60) return LIMIT;
            text.append((char) sign);
            return text.length();
        }

        int clear() {
            int old = text.length();
            text = new StringBuilder();
            return old;
        }

        int fault(int what) {
            if (what < 0 || what > 2) return INVALID;
            int[] fault = perform(now.copy());
            return fault[1] == 0 ? NOT_FOUND : fault[what];
        }

        int play() {
            State then = now.copy();
            int[] fault = perform(then);
            if (fault[1] != 0) return NOT_POSSIBLE;
            State before = now;
            now = then;
            return keep(before, fault[3]);
        }

        /** Position, reason, cause, and how many orders were done. */
        int[] perform(State state) {
            int start = 0;
            int done = 0;
            while (start < text.length()) {
                String rest = text.substring(start);
                String order = wholeOrder(rest);
                if (order == null) return new int[] {start, 1, breaksOff(rest), done};
                int answer = give(state, order);
                if (answer < 0) return new int[] {start, 2, answer, done};
                start += order.length();
                done++;
            }
            return new int[] {0, 0, 0, done};
        }

        static final String NUMBER = "[0-9]{1,4}";
        static final String[] FORMS = {"p" + NUMBER + ";", "l" + NUMBER + "," + NUMBER + "," + NUMBER + ";",
            "w" + NUMBER + "," + NUMBER + ";", "s" + NUMBER + "," + NUMBER + ";", "b" + NUMBER + ";", "e;"};

        static String wholeOrder(String rest) {
            int end = rest.indexOf(';');
            if (end < 0) return null;
            String order = rest.substring(0, end + 1);
            for (String form : FORMS) if (order.matches(form)) return order;
            return null;
        }

        /** How many characters some order begins with, too. */
        static int breaksOff(String rest) {
            int longest = 0;
            for (int length = 0; length <= rest.length(); length++) {
                for (String form : FORMS) {
                    java.util.regex.Matcher matcher =
                        java.util.regex.Pattern.compile(form).matcher(rest.substring(0, length));
                    if (matcher.matches() || matcher.hitEnd()) longest = length;
                }
            }
            return longest;
        }

        static int give(State state, String order) {
            String[] parts = order.substring(1, order.length() - 1).split(",");
            int[] c = new int[4];
            c[0] = new int[] {0, 1, 4, 6, 5, 7}["plwsbe".indexOf(order.charAt(0))];
            for (int i = 0; i < parts.length && !parts[i].isEmpty(); i++) c[i + 1] = Integer.parseInt(parts[i]);
            return state.change(c);
        }
    }
}
