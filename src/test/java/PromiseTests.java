/** One test or more for each promise of the document: ordinary inputs, edges, wrong inputs. */
public final class PromiseTests {
    private static final int INVALID = LinkGarden.INVALID_ARGUMENT;
    private static final int NOT_POSSIBLE = LinkGarden.NOT_POSSIBLE;
    private static final int LIMIT = LinkGarden.LIMIT_REACHED;
    private static final int NOT_FOUND = LinkGarden.NOT_FOUND;
    private static final int MIN = Integer.MIN_VALUE;
    private static final int MAX = Integer.MAX_VALUE;

    private static int wrong = 0;
    private static String test = "";

    public static void main(String[] args) {
        newObject();
        page();
        link();
        cut();
        reader();
        walk();
        back();
        search();
        searchAtTheLimitOfLinks();
        seasonWithers();
        seasonPrunes();
        set();
        pageOf();
        linkOf();
        readerOf();
        trail();
        way();
        would();
        withers();
        rescue();
        hub();
        mean();
        count();
        undo();
        type();
        clearText();
        faultOfForm();
        faultOfCalls();
        play();
        System.out.println(wrong == 0 ? "all promises hold" : wrong + " answers are not as due");
        if (wrong != 0) {
            System.exit(1);
        }
    }

    private static void newObject() {
        test = "1: a new object";
        LinkGarden x = new LinkGarden();
        int[] zeros = {0, 1, 2, 3, 4, 5, 6, 7, 8, 9, 10, 11, 12};
        for (int what : zeros) {
            due("count " + what, x.count(what), 0);
        }
        due("setting 0", x.count(20), 5);
        due("setting 1", x.count(21), 3);
        due("setting 2", x.count(22), 4);
        due("no history", x.undo(), NOT_POSSIBLE);
        due("no page", x.pageOf(0, 0), INVALID);
        due("no reader", x.readerOf(0, 0), INVALID);
        due("constants", LinkGarden.INVALID_ARGUMENT, -1000001);
        due("constants", LinkGarden.NOT_POSSIBLE, -1000002);
        due("constants", LinkGarden.LIMIT_REACHED, -1000003);
        due("constants", LinkGarden.NOT_FOUND, -1000004);
        x.page(1);
        due("another object", new LinkGarden().count(0), 0);
    }

    private static void page() {
        test = "2: page";
        LinkGarden x = new LinkGarden();
        due("below", x.page(-1), INVALID);
        due("above", x.page(65536), INVALID);
        due("far below", x.page(MIN), INVALID);
        due("far above", x.page(MAX), INVALID);
        due("no words", x.page(0), 0);
        due("all words", x.page(65535), 1);
        for (int page = 2; page < 12; page++) {
            due("the next", x.page(page), page);
        }
        due("the words", x.pageOf(1, 0), 65535);
        due("the words of the last", x.pageOf(11, 0), 11);
        due("a thirteenth", x.page(0), LIMIT);
        due("invalid rather than the limit", x.page(-1), INVALID);
        due("still 12", x.count(0), 12);
    }

    private static void link() {
        test = "3: link";
        LinkGarden x = withPages(12);
        due("new", x.link(0, 1, 1), 0);
        due("other strength", x.link(0, 1, 99), 1);
        due("what it was", x.link(0, 1, 50), 99);
        due("the other way is another link", x.link(1, 0, 7), 0);
        due("to itself", x.link(3, 3, 5), INVALID);
        due("strength 0", x.link(0, 2, 0), INVALID);
        due("strength 100", x.link(0, 2, 100), INVALID);
        due("from -1", x.link(-1, 2, 1), INVALID);
        due("from 12", x.link(12, 2, 1), INVALID);
        due("to -1", x.link(2, -1, 1), INVALID);
        due("to 12", x.link(2, 12, 1), INVALID);
        due("far", x.link(MIN, MAX, 1), INVALID);
        due("two links", x.count(1), 2);
        x.reader(0);
        x.walk(0, 1);
        due("a walked one", x.link(0, 1, 3), 55);
        due("stays walked", x.linkOf(0, 1, 1), 1);
        due("and so often", x.linkOf(0, 1, 2), 1);
        due("has the strength", x.linkOf(0, 1, 0), 3);
        due("not walked", x.linkOf(1, 0, 1), 0);

        LinkGarden full = withLinks(40);
        due("40 links", full.count(1), 40);
        due("one more", full.link(11, 0, 1), LIMIT);
        due("another strength is no more", full.link(0, 1, 9), 5);
        due("invalid rather than the limit", full.link(11, 0, 100), INVALID);
        full.cut(0, 1);
        due("room again", full.link(11, 0, 1), 0);
    }

    private static void cut() {
        test = "4: cut";
        LinkGarden x = withPages(3);
        x.link(0, 1, 42);
        x.link(1, 2, 9);
        due("page -1", x.cut(-1, 1), INVALID);
        due("page 3", x.cut(0, 3), INVALID);
        due("far", x.cut(MAX, MIN), INVALID);
        due("none", x.cut(1, 0), NOT_POSSIBLE);
        due("the same page", x.cut(1, 1), NOT_POSSIBLE);
        due("cut", x.cut(0, 1), 42);
        due("gone", x.linkOf(0, 1, 0), NOT_FOUND);
        due("one left", x.count(1), 1);
        due("again", x.cut(0, 1), NOT_POSSIBLE);
        x.reader(1);
        x.walk(0, 2);
        due("walked", x.cut(1, 2), NOT_POSSIBLE);
        x.season();
        due("walked in another season", x.cut(1, 2), 14);
        x.link(1, 2, 7);
        due("walks are counted anew", x.linkOf(1, 2, 2), 0);
        due("not a withered one", x.count(9), 0);
    }

    private static void reader() {
        test = "5: reader";
        LinkGarden x = new LinkGarden();
        due("no page", x.reader(0), INVALID);
        x.page(0);
        x.page(0);
        due("page -1", x.reader(-1), INVALID);
        due("page 2", x.reader(2), INVALID);
        due("far", x.reader(MAX), INVALID);
        due("first", x.reader(1), 0);
        due("second", x.reader(0), 1);
        due("third", x.reader(1), 2);
        due("fourth", x.reader(1), 3);
        due("fifth", x.reader(0), LIMIT);
        due("invalid rather than the limit", x.reader(2), INVALID);
        due("where", x.readerOf(0, 0), 1);
        due("where the second is", x.readerOf(1, 0), 0);
        due("four", x.count(2), 4);
        due("to be put is not to come", x.pageOf(1, 5), 0);
    }

    private static void walk() {
        test = "6: walk";
        LinkGarden x = withPages(3);
        x.link(0, 1, 5);
        x.link(1, 0, 97);
        due("no reader", x.walk(0, 1), INVALID);
        x.reader(0);
        due("reader -1", x.walk(-1, 1), INVALID);
        due("reader 1", x.walk(1, 1), INVALID);
        due("page -1", x.walk(0, -1), INVALID);
        due("page 3", x.walk(0, 3), INVALID);
        due("far", x.walk(MAX, MIN), INVALID);
        due("no link", x.walk(0, 2), NOT_POSSIBLE);
        due("to the same page", x.walk(0, 0), NOT_POSSIBLE);
        due("along", x.walk(0, 1), 10);
        due("there", x.readerOf(0, 0), 1);
        due("walked", x.linkOf(0, 1, 1), 1);
        due("how often", x.linkOf(0, 1, 2), 1);
        due("the page that is left", x.trail(0, 0), 0);
        due("not above 99", x.walk(0, 0), 99);
        due("came back", x.pageOf(0, 5), 1);
        x.set(0, 0);
        due("no growth", x.walk(0, 1), 10);
        x.set(0, 50);
        due("99 stays", x.walk(0, 0), 99);
        due("much growth", x.walk(0, 1), 60);
        due("walks", x.readerOf(0, 2), 5);
        due("walks of the link", x.linkOf(0, 1, 2), 3);
    }

    private static void back() {
        test = "7: back";
        LinkGarden x = withPages(3);
        x.link(0, 1, 5);
        x.link(1, 2, 5);
        due("no reader", x.back(0), INVALID);
        x.reader(0);
        due("reader -1", x.back(-1), INVALID);
        due("reader 1", x.back(1), INVALID);
        due("no trail", x.back(0), NOT_POSSIBLE);
        x.walk(0, 1);
        x.walk(0, 2);
        due("back without a link", x.back(0), 1);
        due("the trail is shorter", x.readerOf(0, 1), 1);
        due("the page left is not on it", x.readerOf(0, 4), 1);
        due("links are not walked", x.linkOf(1, 2, 2), 1);
        due("no walk", x.readerOf(0, 2), 2);
        due("came again", x.pageOf(1, 5), 2);
        due("back to the first", x.back(0), 0);
        due("came to the first", x.pageOf(0, 5), 1);
        due("no trail any more", x.back(0), NOT_POSSIBLE);
    }

    private static void search() {
        test = "8: search";
        LinkGarden x = new LinkGarden();
        x.page(1);
        x.page(1 | 2);
        x.page(1 | 2 | 32768);
        x.page(1 | 2);
        x.page(4);
        due("no reader", x.search(0, 0), INVALID);
        x.reader(0);
        due("reader 1", x.search(1, 0), INVALID);
        due("reader -1", x.search(-1, 0), INVALID);
        due("word -1", x.search(0, -1), INVALID);
        due("word 16", x.search(0, 16), INVALID);
        due("far", x.search(MIN, MAX), INVALID);
        due("nobody has it", x.search(0, 9), NOT_POSSIBLE);
        x.link(0, 4, 8);
        x.link(4, 3, 8);
        x.link(4, 2, 8);
        due("the shortest, the lowest of them", x.search(0, 1), 2);
        due("sown", x.linkOf(0, 2, 0), 1);
        due("sown, not walked", x.linkOf(0, 2, 1), 0);
        due("sown, never walked", x.linkOf(0, 2, 2), 0);
        due("one sown", x.count(8), 1);
        due("the trail", x.trail(0, 0), 0);
        due("came", x.pageOf(2, 5), 1);
        due("searches", x.readerOf(0, 3), 1);
        due("no walk", x.readerOf(0, 2), 0);
        due("only the own page has it", x.search(0, 15), NOT_POSSIBLE);
        due("no way to any: the lowest", x.search(0, 0), 0);
        due("along a link: nothing is sown", x.search(0, 1), 2);
        due("still two sown", x.count(8), 2);
        due("the link is no other", x.linkOf(0, 2, 0), 1);
        due("and not walked", x.linkOf(0, 2, 1), 0);
        x.reader(0);
        x.cut(0, 2);
        x.cut(4, 2);
        due("a way is ahead of a lower page without one", x.search(1, 1), 3);
        due("the last word", x.search(1, 15), 2);
    }

    private static void searchAtTheLimitOfLinks() {
        test = "8: search with 40 links";
        LinkGarden x = new LinkGarden();
        for (int page = 0; page < 12; page++) {
            x.page(page == 11 ? 1 : 0);
        }
        layLinks(x, 40);
        x.reader(0);
        due("no link to it", x.linkOf(0, 11, 0), 5);
        x.cut(0, 11);
        x.link(10, 9, 5);
        due("found", x.search(0, 0), 11);
        due("nothing sown", x.linkOf(0, 11, 0), NOT_FOUND);
        due("none counted", x.count(8), 0);
        due("40 links", x.count(1), 40);
        due("on the trail", x.trail(0, 0), 0);
    }

    private static void seasonWithers() {
        test = "9: season, what withers";
        LinkGarden x = withPages(4);
        due("without links", x.season(), 0);
        x.link(0, 1, 3);
        x.link(0, 2, 4);
        x.link(1, 0, 1);
        x.reader(1);
        x.walk(0, 0);
        due("those that would be below 1", x.season(), 1);
        due("gone", x.linkOf(0, 1, 0), NOT_FOUND);
        due("1 is left", x.linkOf(0, 2, 0), 1);
        due("a walked one is no weaker", x.linkOf(1, 0, 0), 6);
        due("not walked any more", x.linkOf(1, 0, 1), 0);
        due("how often stays", x.linkOf(1, 0, 2), 1);
        due("withered", x.count(9), 1);
        due("seasons", x.count(3), 2);
        due("weaker then", x.season(), 1);
        due("3 are left", x.linkOf(1, 0, 0), 3);
        x.set(1, 0);
        x.season();
        due("no decay", x.linkOf(1, 0, 0), 3);
        x.set(1, 50);
        due("much decay", x.season(), 1);
        due("withered in all", x.count(9), 3);
    }

    private static void seasonPrunes() {
        test = "9: season, what is pruned";
        LinkGarden x = withPages(6);
        x.set(1, 2);
        x.set(2, 2);
        x.link(0, 1, 6);
        x.link(0, 2, 5);
        x.link(0, 3, 5);
        x.link(0, 4, 2);
        x.link(0, 5, 7);
        x.link(1, 0, 3);
        x.link(1, 2, 4);
        due("one withers, two are pruned", x.season(), 3);
        due("the weakest go, the strongest stay", x.pageOf(0, 1), 2 | 32);
        due("few enough stay", x.pageOf(1, 1), 1 | 4);
        due("withered", x.count(9), 1);
        due("pruned", x.count(10), 2);
        x.set(1, 0);
        x.link(0, 3, 4);
        x.link(0, 2, 4);
        x.set(2, 3);
        due("of several the one to the lowest page", x.season(), 1);
        due("the higher pages stay", x.pageOf(0, 1), 4 | 8 | 32);
        x.reader(0);
        x.walk(0, 2);
        x.back(0);
        x.walk(0, 3);
        x.set(2, 1);
        due("walked ones are not pruned", x.season(), 2);
        due("more than setting 2 are left", x.pageOf(0, 1), 4 | 8);
        due("another page is pruned, too", x.pageOf(1, 1), 4);
        due("the next season prunes them", x.season(), 1);
        due("one is left", x.pageOf(0, 1), 8);
        due("pruned in all", x.count(10), 6);
        due("withered in all", x.count(9), 1);
    }

    private static void set() {
        test = "10: set";
        LinkGarden x = new LinkGarden();
        due("setting 0", x.set(0, 50), 5);
        due("setting 0 back to 0", x.set(0, 0), 50);
        due("setting 1", x.set(1, 50), 3);
        due("setting 1 back to 0", x.set(1, 0), 50);
        due("setting 2", x.set(2, 11), 4);
        due("setting 2 to 1", x.set(2, 1), 11);
        due("it is that", x.count(22), 1);
        int[][] bad = {{0, 51}, {0, -1}, {1, 51}, {1, -1}, {2, 0}, {2, 12}, {3, 1}, {-1, 1}, {MAX, 1}, {MIN, 1}, {0, MAX}, {2, MIN}};
        for (int[] pair : bad) {
            due("set(" + pair[0] + ", " + pair[1] + ")", x.set(pair[0], pair[1]), INVALID);
        }
        due("nothing set", x.count(20), 0);
        due("six changes, four states", x.count(11), 4);
    }

    private static void pageOf() {
        test = "11: pageOf";
        LinkGarden x = withPages(5);
        x.page(77);
        x.link(0, 1, 10);
        x.link(1, 2, 20);
        x.link(3, 2, 30);
        x.link(2, 1, 5);
        x.link(2, 3, 5);
        x.reader(2);
        x.reader(2);
        x.reader(1);
        due("words", x.pageOf(5, 0), 77);
        due("links from", x.pageOf(2, 1), 2 | 8);
        due("links to", x.pageOf(2, 2), 2 | 8);
        due("links to the first", x.pageOf(0, 2), 0);
        due("strength together", x.pageOf(2, 3), 50);
        due("no strength", x.pageOf(0, 3), 0);
        due("readers", x.pageOf(2, 4), 2);
        due("no readers", x.pageOf(0, 4), 0);
        due("nobody came", x.pageOf(2, 5), 0);
        x.walk(2, 2);
        x.walk(0, 1);
        x.back(0);
        due("they came", x.pageOf(2, 5), 2);
        due("reached", x.pageOf(0, 6), 15);
        due("reached without the first", x.pageOf(3, 6), 14);
        due("itself alone", x.pageOf(4, 6), 16);
        due("what -1", x.pageOf(0, -1), INVALID);
        due("what 7", x.pageOf(0, 7), INVALID);
        due("page 6", x.pageOf(6, 0), INVALID);
        due("page -1", x.pageOf(-1, 0), INVALID);
        due("far", x.pageOf(MAX, MIN), INVALID);

        LinkGarden chain = withPages(12);
        for (int page = 11; page > 0; page--) {
            chain.link(page, page - 1, 1);
        }
        due("a long way", chain.pageOf(11, 6), 4095);
        due("half of it", chain.pageOf(5, 6), 63);
    }

    private static void linkOf() {
        test = "12: linkOf";
        LinkGarden x = withPages(3);
        x.link(0, 2, 33);
        x.reader(0);
        x.reader(0);
        due("strength", x.linkOf(0, 2, 0), 33);
        due("not walked", x.linkOf(0, 2, 1), 0);
        due("never", x.linkOf(0, 2, 2), 0);
        x.walk(0, 2);
        x.walk(1, 2);
        due("walked", x.linkOf(0, 2, 1), 1);
        due("twice", x.linkOf(0, 2, 2), 2);
        due("none", x.linkOf(2, 0, 0), NOT_FOUND);
        due("the same page", x.linkOf(1, 1, 0), NOT_FOUND);
        due("what -1", x.linkOf(2, 0, -1), INVALID);
        due("what 3", x.linkOf(0, 2, 3), INVALID);
        due("page 3", x.linkOf(3, 0, 0), INVALID);
        due("page -1", x.linkOf(0, -1, 0), INVALID);
        due("far", x.linkOf(MIN, MAX, 0), INVALID);
    }

    private static void readerOf() {
        test = "13: readerOf";
        LinkGarden x = withPages(3);
        x.page(2);
        x.link(0, 1, 5);
        x.link(1, 2, 5);
        x.reader(0);
        x.reader(1);
        x.walk(0, 1);
        x.walk(0, 2);
        x.search(0, 1);
        due("page", x.readerOf(0, 0), 3);
        due("trail", x.readerOf(0, 1), 3);
        due("walks", x.readerOf(0, 2), 2);
        due("searches", x.readerOf(0, 3), 1);
        due("set", x.readerOf(0, 4), 7);
        x.back(0);
        due("set after going back", x.readerOf(0, 4), 3);
        due("walks after going back", x.readerOf(0, 2), 2);
        due("the other's page", x.readerOf(1, 0), 1);
        due("the other's trail", x.readerOf(1, 4), 0);
        due("the other's walks", x.readerOf(1, 2), 0);
        due("what 5", x.readerOf(0, 5), INVALID);
        due("what -1", x.readerOf(0, -1), INVALID);
        due("reader 2", x.readerOf(2, 0), INVALID);
        due("reader -1", x.readerOf(-1, 0), INVALID);
        due("far", x.readerOf(MAX, MAX), INVALID);
    }

    private static void trail() {
        test = "14: trail";
        LinkGarden x = withPages(12);
        for (int page = 0; page < 11; page++) {
            x.link(page, page + 1, 5);
        }
        x.reader(0);
        due("empty", x.trail(0, 0), NOT_FOUND);
        for (int page = 1; page <= 8; page++) {
            x.walk(0, page);
        }
        due("eight", x.readerOf(0, 1), 8);
        due("the earliest", x.trail(0, 7), 0);
        x.walk(0, 9);
        due("still eight", x.readerOf(0, 1), 8);
        due("the latest", x.trail(0, 0), 8);
        due("the earliest now", x.trail(0, 7), 1);
        due("no ninth", x.trail(0, 8), NOT_FOUND);
        due("far", x.trail(0, MAX), NOT_FOUND);
        due("index -1", x.trail(0, -1), INVALID);
        due("index far below", x.trail(0, MIN), INVALID);
        due("reader 1", x.trail(1, 0), INVALID);
        due("reader -1", x.trail(-1, 0), INVALID);
        x.back(0);
        due("the latest after going back", x.trail(0, 0), 7);
        due("seven", x.trail(0, 7), NOT_FOUND);
        due("the sixth", x.trail(0, 6), 1);
    }

    private static void way() {
        test = "15: way";
        LinkGarden x = withPages(8);
        x.link(0, 5, 1);
        x.link(5, 1, 1);
        x.link(1, 7, 1);
        x.link(0, 4, 1);
        x.link(4, 6, 1);
        x.link(6, 7, 1);
        x.link(4, 3, 1);
        x.link(3, 7, 1);
        due("three links", x.way(0, 7, -1), 3);
        due("from", x.way(0, 7, 0), 0);
        due("the lowest page first", x.way(0, 7, 1), 4);
        due("the lowest page then", x.way(0, 7, 2), 3);
        due("to", x.way(0, 7, 3), 7);
        due("no more", x.way(0, 7, 4), NOT_FOUND);
        due("far", x.way(0, 7, MAX), NOT_FOUND);
        due("none", x.way(7, 0, -1), NOT_FOUND);
        due("none at all", x.way(0, 2, 0), NOT_FOUND);
        due("to itself", x.way(2, 2, -1), 0);
        due("itself", x.way(2, 2, 0), 2);
        due("no more than itself", x.way(2, 2, 1), NOT_FOUND);
        due("index -2", x.way(0, 7, -2), INVALID);
        due("index far below", x.way(0, 7, MIN), INVALID);
        due("page 8", x.way(0, 8, 0), INVALID);
        due("page -1", x.way(-1, 0, 0), INVALID);
        due("pages far", x.way(MAX, MIN, 0), INVALID);
        x.link(0, 7, 1);
        due("shorter", x.way(0, 7, -1), 1);
        due("straight", x.way(0, 7, 1), 7);

        LinkGarden chain = withPages(12);
        for (int page = 11; page > 0; page--) {
            chain.link(page, page - 1, 1);
        }
        due("a long way", chain.way(11, 0, -1), 11);
        due("its middle", chain.way(11, 0, 5), 6);
        due("its end", chain.way(11, 0, 11), 0);
        due("behind its end", chain.way(11, 0, 12), NOT_FOUND);
    }

    private static void would() {
        test = "16: would";
        LinkGarden x = new LinkGarden();
        x.page(0);
        x.page(8);
        x.page(8);
        due("no reader", x.would(0, 3), INVALID);
        x.reader(0);
        due("no way: the lowest", x.would(0, 3), 1);
        x.link(0, 2, 4);
        due("by a way", x.would(0, 3), 2);
        due("nobody has it", x.would(0, 4), NOT_FOUND);
        due("word -1", x.would(0, -1), INVALID);
        due("word 16", x.would(0, 16), INVALID);
        due("reader 1", x.would(1, 3), INVALID);
        due("reader -1", x.would(-1, 3), INVALID);
        due("far", x.would(MAX, MAX), INVALID);
        due("nobody went", x.readerOf(0, 0), 0);
        due("no search", x.readerOf(0, 3), 0);
        due("nothing sown", x.count(8), 0);
        due("no state", x.count(11), 4);
        x.search(0, 3);
        due("another page", x.would(0, 3), 1);
        x.page(16);
        x.reader(3);
        due("only the own page has it", x.would(1, 4), NOT_FOUND);
    }

    private static void withers() {
        test = "17: withers";
        LinkGarden x = withPages(6);
        x.set(2, 1);
        x.link(0, 1, 3);
        x.link(0, 2, 9);
        x.link(0, 3, 8);
        x.link(0, 4, 7);
        x.link(2, 1, 1);
        due("in all", x.withers(0), 4);
        due("withered", x.withers(1), 2);
        due("pruned", x.withers(2), 2);
        due("what -1", x.withers(-1), INVALID);
        due("what 3", x.withers(3), INVALID);
        due("far", x.withers(MIN), INVALID);
        due("nothing is gone", x.count(1), 5);
        due("no season", x.count(3), 0);
        due("no weaker", x.linkOf(0, 2, 0), 9);
        due("so it is", x.season(), 4);
        due("nothing more", x.withers(0), 0);
        x.link(2, 1, 1);
        due("not those of ahead", x.withers(1), 1);
        x.set(0, 0);
        x.reader(2);
        x.walk(0, 1);
        due("a walked one stays", x.withers(1), 0);
    }

    private static void rescue() {
        test = "18: rescue";
        LinkGarden x = withPages(6);
        due("no links", x.rescue(0), NOT_FOUND);
        x.link(3, 1, 9);
        due("none is gone", x.rescue(1), NOT_FOUND);
        x.link(2, 5, 2);
        x.link(2, 4, 2);
        x.link(1, 3, 1);
        due("from the lowest of the strongest", x.rescue(0), 2);
        due("to the lowest", x.rescue(1), 4);
        x.link(0, 5, 2);
        due("from the lowest page", x.rescue(0), 0);
        due("whatever the other is", x.rescue(1), 5);
        x.link(4, 0, 3);
        due("the strongest", x.rescue(0), 4);
        x.set(2, 1);
        x.link(3, 2, 8);
        due("one that would be pruned", x.rescue(0), 3);
        due("and where to", x.rescue(1), 2);
        x.reader(3);
        x.walk(0, 1);
        x.back(0);
        x.walk(0, 2);
        due("walked ones stay", x.rescue(0), 4);
        due("what 2", x.rescue(2), INVALID);
        due("what -1", x.rescue(-1), INVALID);
        due("far", x.rescue(MAX), INVALID);
        due("nothing is gone", x.count(1), 7);
        due("what rather than none", new LinkGarden().rescue(5), INVALID);
    }

    private static void hub() {
        test = "19: hub";
        LinkGarden x = withPages(5);
        due("no links", x.hub(0), NOT_FOUND);
        due("what rather than no links", x.hub(2), INVALID);
        due("what -1", x.hub(-1), INVALID);
        x.link(0, 4, 20);
        due("the only one", x.hub(0), 4);
        x.link(0, 2, 15);
        x.link(4, 2, 5);
        due("the lowest of two", x.hub(0), 2);
        due("its strength", x.hub(1), 20);
        x.link(1, 4, 1);
        due("the greatest", x.hub(0), 4);
        due("its strength then", x.hub(1), 21);
        due("far", x.hub(MAX), INVALID);
        LinkGarden most = withPages(12);
        for (int page = 0; page < 11; page++) {
            most.link(page, 11, 99);
        }
        due("the last page", most.hub(0), 11);
        due("all together", most.hub(1), 1089);
    }

    private static void mean() {
        test = "20: mean";
        LinkGarden x = withPages(12);
        due("no links", x.mean(), NOT_FOUND);
        int sum = 0;
        int number = 0;
        for (int from = 0; from < 12; from++) {
            for (int step = 1; step < 4; step++) {
                int strength = 1 + (from * 37 + step * 53) % 99;
                x.link(from, (from + step) % 12, strength);
                sum += strength;
                number++;
                due(sum + " by " + number, x.mean(), bits(sum, number));
            }
        }
        LinkGarden one = withPages(2);
        for (int strength = 1; strength < 100; strength++) {
            one.link(0, 1, strength);
            due("one of " + strength, one.mean(), bits(strength, 1));
        }
        LinkGarden least = withPages(3);
        least.link(0, 1, 1);
        due("1", least.mean(), 0x3f800000);
        least.link(0, 2, 2);
        due("1.5", least.mean(), 0x3fc00000);
    }

    private static int bits(int sum, int number) {
        return Float.floatToIntBits((float) sum / (float) number);
    }

    private static void count() {
        test = "21: count";
        LinkGarden x = withPages(4);
        x.page(1);
        x.link(0, 1, 9);
        x.link(1, 2, 8);
        x.link(2, 1, 2);
        x.reader(0);
        x.reader(2);
        x.walk(0, 1);
        x.walk(0, 2);
        x.walk(1, 1);
        x.search(1, 0);
        x.type('e');
        due("pages", x.count(0), 5);
        due("links", x.count(1), 4);
        due("readers", x.count(2), 2);
        due("seasons", x.count(3), 0);
        due("walked", x.count(4), 3);
        due("without links from them", x.count(5), 8 | 16);
        due("without links to them", x.count(6), 1 | 8);
        due("walks", x.count(7), 3);
        due("sown", x.count(8), 1);
        due("history", x.count(11), 4);
        due("text", x.count(12), 1);
        x.season();
        due("seasons then", x.count(3), 1);
        due("walked then", x.count(4), 0);
        due("withered then", x.count(9), 1);
        due("pruned then", x.count(10), 0);
        due("walks then", x.count(7), 3);
        due("links then", x.count(1), 3);
        due("dead ends then", x.count(5), 8 | 16);
        int[] bad = {-1, 13, 14, 19, 23, MIN, MAX};
        for (int what : bad) {
            due("what " + what, x.count(what), INVALID);
        }
        for (int what = 0; what < 3; what++) {
            x.set(what, 7 + what);
            due("setting " + what, x.count(20 + what), 7 + what);
        }
        due("12 pages as a set", withPages(12).count(5), 4095);
    }

    private static void undo() {
        test = "22: undo";
        LinkGarden x = new LinkGarden();
        due("empty", x.undo(), NOT_POSSIBLE);
        x.page(1);
        due("one state", x.count(11), 1);
        due("none left", x.undo(), 0);
        due("no page", x.count(0), 0);
        for (int page = 0; page < 6; page++) {
            x.page(page);
        }
        due("four states", x.count(11), 4);
        x.type('e');
        due("three left", x.undo(), 3);
        due("five pages", x.count(0), 5);
        due("two left", x.undo(), 2);
        due("one left", x.undo(), 1);
        due("none left", x.undo(), 0);
        due("the oldest ones are dropped", x.count(0), 2);
        due("no more", x.undo(), NOT_POSSIBLE);
        due("the text stays", x.count(12), 1);
        due("the next page", x.page(9), 2);
        due("has its own words", x.pageOf(2, 0), 9);
    }

    private static void type() {
        test = "23: type";
        LinkGarden x = new LinkGarden();
        due("31", x.type(31), INVALID);
        due("127", x.type(127), INVALID);
        due("far below", x.type(MIN), INVALID);
        due("far above", x.type(MAX), INVALID);
        due("like a sign by its lowest bits", x.type(65536 + 'e'), INVALID);
        due("32", x.type(32), 1);
        due("126", x.type(126), 2);
        for (int length = 3; length <= 60; length++) {
            due("the next", x.type(';'), length);
        }
        due("the 61st", x.type('e'), LIMIT);
        due("invalid rather than the limit", x.type(31), INVALID);
        due("60", x.count(12), 60);
        due("no change", x.count(11), 0);
    }

    private static void clearText() {
        test = "24: clearText";
        LinkGarden x = new LinkGarden();
        due("empty", x.clearText(), 0);
        write(x, "e;x");
        due("three", x.clearText(), 3);
        due("none", x.count(12), 0);
        due("empty again", x.clearText(), 0);
        due("no fault", x.fault(0), NOT_FOUND);
        due("no change", x.count(11), 0);
        due("from the first on", x.type('e'), 1);
    }

    private static void faultOfForm() {
        test = "25: fault, reason 1";
        LinkGarden none = new LinkGarden();
        due("empty", none.fault(0), NOT_FOUND);
        due("what -1", none.fault(-1), INVALID);
        due("what 3", none.fault(3), INVALID);
        due("far", none.fault(MAX), INVALID);
        dueFault("x", 0, 1, 0);
        dueFault(" e;", 0, 1, 0);
        dueFault(";", 0, 1, 0);
        dueFault("E;", 0, 1, 0);
        dueFault("e", 0, 1, 1);
        dueFault("e1;", 0, 1, 1);
        dueFault("e;;", 2, 1, 0);
        dueFault("p;", 0, 1, 1);
        dueFault("p", 0, 1, 1);
        dueFault("p1", 0, 1, 2);
        dueFault("p12345;", 0, 1, 5);
        dueFault("p00001;", 0, 1, 5);
        dueFault("p-1;", 0, 1, 1);
        dueFault("p1,2;", 0, 1, 2);
        dueFault("p1;p2;l0,1;", 6, 1, 4);
        dueFault("p1;p2;l0,1,", 6, 1, 5);
        dueFault("p1;p2;l0,,1;", 6, 1, 3);
        dueFault("p1;p2;l0,1,2,3;", 6, 1, 6);
        dueFault("p1;w0;", 3, 1, 2);
        dueFault("p1;s0,", 3, 1, 3);
        dueFault("p1;b;", 3, 1, 1);
        dueFault("p1;b0,1;", 3, 1, 2);
        dueFault("p1;p/;", 3, 1, 1);
        dueFault("p1;p:;", 3, 1, 1);
        dueNoFault("p0;p9999;p0007;e;l0,1,99;l00,001,0001;e;e;");
    }

    private static void faultOfCalls() {
        test = "25: fault, reason 2";
        dueFault("b0;", 0, 2, INVALID);
        dueFault("w0,0;", 0, 2, INVALID);
        dueFault("s0,0;", 0, 2, INVALID);
        dueFault("p1;l0,0,1;", 3, 2, INVALID);
        dueFault("p1;p1;l0,1,0;", 6, 2, INVALID);
        dueFault("p1;p1;l0,1,100;", 6, 2, INVALID);
        dueFault("b0;x", 0, 2, INVALID);
        dueFault("p1;p1;l0,1,1;e;l0,2,1;", 15, 2, INVALID);
        dueFault("p0;p0;p0;p0;p0;p0;p0;p0;p0;p0;p0;p0;p0;x", 36, 2, LIMIT);

        LinkGarden x = withPages(3);
        x.reader(0);
        write(x, "b0;");
        due("no trail", x.fault(2), NOT_POSSIBLE);
        x.clearText();
        write(x, "l0,1,5;w0,1;w0,2;");
        due("no link: where", x.fault(0), 12);
        due("no link: reason", x.fault(1), 2);
        due("no link: cause", x.fault(2), NOT_POSSIBLE);
        due("nothing is done", x.count(1), 0);
        due("nobody walked", x.readerOf(0, 0), 0);
        x.link(1, 2, 5);
        due("then there is none", x.fault(0), NOT_FOUND);
        x.clearText();
        write(x, "s0,16;");
        due("no such word", x.fault(2), INVALID);
        x.clearText();
        write(x, "s0,15;");
        due("no page has it", x.fault(2), NOT_POSSIBLE);
        due("no state more", x.count(11), 4);
    }

    private static void play() {
        test = "26: play";
        LinkGarden x = new LinkGarden();
        due("no orders", x.play(), 0);
        due("one change", x.count(11), 1);
        write(x, "p3;p0004;p4;l0,1,10;l1,2,1;e;");
        due("six orders", x.play(), 6);
        due("one change more", x.count(11), 2);
        due("the text stays", x.count(12), 29);
        due("pages", x.count(0), 3);
        due("words", x.pageOf(1, 0), 4);
        due("a season", x.count(3), 1);
        due("weaker", x.linkOf(0, 1, 0), 7);
        due("withered", x.count(9), 1);
        due("again", x.play(), 6);
        due("six pages", x.count(0), 6);
        due("undone at once", x.undo(), 2);
        due("three pages", x.count(0), 3);
        x.reader(0);
        x.clearText();
        write(x, "w0,1;s0,2;b0;b0;");
        due("readers", x.play(), 4);
        due("walked", x.linkOf(0, 1, 2), 1);
        due("stronger", x.linkOf(0, 1, 0), 12);
        due("sown", x.linkOf(1, 2, 0), 1);
        due("came back", x.readerOf(0, 0), 0);
        due("the trail", x.readerOf(0, 1), 0);
        due("came", x.pageOf(1, 5), 2);
        x.clearText();
        write(x, "e;w0,2;");
        int states = x.count(11);
        due("a fault", x.play(), NOT_POSSIBLE);
        due("nothing is done", x.count(3), 1);
        due("no state more", x.count(11), states);
        x.clearText();
        write(x, "e;e");
        due("a fault of form", x.play(), NOT_POSSIBLE);
        x.clearText();
        StringBuilder many = new StringBuilder();
        for (int i = 0; i < 30; i++) {
            many.append("e;");
        }
        write(x, many.toString());
        due("30 orders", x.play(), 30);
        due("31 seasons", x.count(3), 31);
    }

    private static void dueFault(String text, int position, int reason, int cause) {
        LinkGarden x = new LinkGarden();
        write(x, text);
        due("position of " + text, x.fault(0), position);
        due("reason of " + text, x.fault(1), reason);
        due("cause of " + text, x.fault(2), cause);
        due("what of " + text, x.fault(3), INVALID);
        due("play of " + text, x.play(), NOT_POSSIBLE);
        due("pages after " + text, x.count(0), 0);
    }

    private static void dueNoFault(String text) {
        LinkGarden x = new LinkGarden();
        write(x, text);
        due("no position of " + text, x.fault(0), NOT_FOUND);
        due("no reason of " + text, x.fault(1), NOT_FOUND);
        due("no cause of " + text, x.fault(2), NOT_FOUND);
    }

    private static void write(LinkGarden x, String text) {
        for (int i = 0; i < text.length(); i++) {
            x.type(text.charAt(i));
        }
    }

    private static LinkGarden withPages(int number) {
        LinkGarden x = new LinkGarden();
        for (int page = 0; page < number; page++) {
            x.page(0);
        }
        return x;
    }

    private static LinkGarden withLinks(int number) {
        LinkGarden x = withPages(12);
        layLinks(x, number);
        return x;
    }

    /** Lays links of the strength 5 in the order of their pages: 40 go from the pages 0 to 3. */
    private static void layLinks(LinkGarden x, int number) {
        int laid = 0;
        for (int from = 0; from < 12; from++) {
            for (int to = 0; to < 12 && laid < number; to++) {
                if (from != to) {
                    x.link(from, to, 5);
                    laid++;
                }
            }
        }
    }

    private static void due(String call, int got, int want) {
        if (got != want) {
            wrong++;
            System.out.println(test + ": " + call + " answered " + got + ", due is " + want);
        }
    }
}
