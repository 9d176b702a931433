import java.io.IOException;

/** The boundary cases of the document's promises, a test for each sentence that names one. */
public final class BoundaryTests {
    private static final int INVALID = Run.INVALID;
    private static final int NOT_POSSIBLE = Run.NOT_POSSIBLE;
    private static final int LIMIT = Run.LIMIT;
    private static final int NOT_FOUND = Run.NOT_FOUND;

    /** Numbers that no page, reader or word ever has; in an int's lowest bits some look like one. */
    private static final String[] FAR = {"-1", "-2", "16", "32", "256", "65536", "1073741824", "-1073741824", "MIN", "MAX"};

    public static void main(String[] args) throws IOException {
        newObject();
        page();
        pageLimit();
        linkArguments();
        linkLaid();
        linkOfOtherStrength();
        linkLimit();
        cut();
        cutRefused();
        reader();
        walk();
        walkRefused();
        back();
        search();
        searchRefused();
        season();
        set();
        pageOfRange();
        pageOfLinks();
        pageOfReaders();
        pageOfReached();
        linkOf();
        linkOfSinceItIsThere();
        readerOf();
        trail();
        way();
        would();
        withers();
        rescueChooses();
        rescueRefused();
        hub();
        mean();
        countRange();
        countSets();
        countSoFar();
        undo();
        undoOfAll();
        type();
        clearText();
        fault();
        play();
        playAsOneChange();
        Run.end();
    }

    private static void promise(int number, String words) throws IOException {
        Run.sentence("Promise " + number, words);
    }

    /** The call is refused with each of these in the place of "#". */
    private static void invalid(Run x, String call, String... numbers) {
        for (String number : numbers) {
            x.refuses(call.replace("#", number), INVALID);
        }
    }

    /** The call is refused with each number that nothing has, too. */
    private static void invalidFar(Run x, String call, String... numbers) {
        invalid(x, call, numbers);
        invalid(x, call, FAR);
    }

    private static void newObject() throws IOException {
        promise(1, "Creates a garden without pages.");
        Run x = Run.garden();
        for (int what = 0; what <= 12; what++) {
            x.due("count " + what, 0);
        }
        x.due("count 20", 5).due("count 21", 3).due("count 22", 4).due("withers 0", 0).due("withers 1", 0);
        x.due("withers 2", 0);
        invalidFar(x, "pageOf # 0", "0");
        invalidFar(x, "readerOf # 0", "0");
        invalidFar(x, "reader #", "0");
        invalidFar(x, "link # # 5", "0");
        x.refuses("hub 0", NOT_FOUND).refuses("rescue 0", NOT_FOUND).refuses("mean", NOT_FOUND);
        x.refuses("fault 0", NOT_FOUND).refuses("undo", NOT_POSSIBLE);
        x.due("clearText", 0).due("season", 0).due("play", 0).due("page 0", 0);
    }

    private static void page() throws IOException {
        promise(2, "`words`: 0 to 65535, a set of words");
        Run.garden().due("page 0", 0).due("page 65535", 1).due("pageOf 0 0", 0).due("pageOf 1 0", 65535);
        promise(2, "INVALID_ARGUMENT if words is out of range");
        invalid(Run.garden(), "page #", "-1", "65536", "65537", "131071", "1073741824", "-65536", "MIN", "MAX");
        promise(2, "Returns its number");
        Run x = Run.garden();
        for (int page = 0; page < 12; page++) {
            x.due("page 7", page).due("count 0", page + 1).due("pageOf " + page + " 0", 7);
        }
    }

    private static void pageLimit() throws IOException {
        promise(2, "LIMIT_REACHED if there are 12.");
        Run x = Run.pages(10).due("page 1", 10).due("page 2", 11);
        x.refuses("page 0", LIMIT).refuses("page 65535", LIMIT).refuses("page 65536", INVALID).refuses("page -1", INVALID);
    }

    private static void linkArguments() throws IOException {
        promise(3, "INVALID_ARGUMENT if an argument is out of range, or both pages are the same");
        Run x = Run.pages(3).does("link 0 1 5");
        invalidFar(x, "link # 0 5", "3", "12");
        invalidFar(x, "link 0 # 5", "3", "12", "13");
        invalidFar(x, "link # # 5", "0", "1", "2", "3");
        invalid(x, "link 0 1 #", "-1", "0", "100", "101", "256", "257", "65537", "MIN", "MAX");
        invalid(x, "link 1 0 #", "-1", "0", "100", "101", "256", "257", "65537", "MIN", "MAX");
        invalid(Run.pages(12), "link # 0 5", "12", "13");
        invalid(Run.pages(12), "link 0 # 5", "12", "13");
        invalid(Run.garden("page 0"), "link 0 # 5", "0", "1");
    }

    private static void linkLaid() throws IOException {
        promise(3, "Lays a link, not walked");
        Run x = Run.pages(12).does("reader 0").due("link 0 11 1", 0).due("link 11 0 99", 0);
        x.due("linkOf 0 11 0", 1).due("linkOf 0 11 1", 0).due("linkOf 0 11 2", 0).due("linkOf 11 0 0", 99);
        x.due("linkOf 11 0 1", 0).due("linkOf 11 0 2", 0).due("count 4", 0).due("count 8", 0).due("readerOf 0 2", 0);
        x.does("walk 0 11", "season").due("cut 0 11", 6).due("link 0 11 8", 0).due("linkOf 0 11 1", 0);
        x.due("linkOf 0 11 2", 0);
    }

    private static void linkOfOtherStrength() throws IOException {
        promise(3, "or gives the one that there is another strength (whether it was walked, and how often, stays)");
        Run x = Run.pages(2).does("link 0 1 5", "reader 0", "reader 0", "walk 0 1", "walk 1 1");
        x.due("link 0 1 1", 15).due("linkOf 0 1 0", 1).due("linkOf 0 1 1", 1).due("linkOf 0 1 2", 2).due("count 1", 1);
        x.refuses("cut 0 1", NOT_POSSIBLE).due("season", 0).due("linkOf 0 1 0", 1);
        x.due("link 0 1 99", 1).due("linkOf 0 1 1", 0).due("linkOf 0 1 2", 2).due("cut 0 1", 99);
        promise(3, "Returns the strength that it had, 0 if there was none");
        Run same = Run.pages(2).due("link 0 1 1", 0).due("link 0 1 99", 1).due("link 0 1 99", 99).due("link 1 0 7", 0);
        same.due("cut 0 1", 99).due("link 0 1 5", 0);
    }

    private static void linkLimit() throws IOException {
        promise(3, "LIMIT_REACHED if there was none, and there are 40 links.");
        Run x = Run.links(39, 5).due("link 11 0 5", 0);
        x.refuses("link 11 1 5", LIMIT).refuses("link 3 7 99", LIMIT).refuses("link 3 8 1", LIMIT);
        x.due("link 11 0 6", 5).due("link 0 1 99", 5).due("linkOf 0 1 0", 99).due("count 1", 40);
        x.refuses("link 11 1 100", INVALID).refuses("link 11 11 5", INVALID).refuses("link 12 1 5", INVALID);
    }

    private static void cut() throws IOException {
        promise(4, "Returns the strength that it had");
        Run x = Run.pages(12).does("link 0 1 1", "link 11 10 99", "link 1 0 7").due("cut 0 1", 1).due("cut 11 10", 99);
        x.due("count 1", 1).due("linkOf 0 1 0", NOT_FOUND).due("linkOf 1 0 0", 7).due("count 9", 0).due("count 10", 0);
        promise(4, "`from`: number of a page");
        invalidFar(x, "cut # 0", "12", "13");
        promise(4, "`to`: number of a page");
        invalidFar(x, "cut 1 #", "12", "-12", "13");
        invalidFar(Run.garden(), "cut # #", "0");
    }

    private static void cutRefused() throws IOException {
        promise(4, "NOT_POSSIBLE if there is none, or it was walked in this season.");
        Run x = Run.pages(3).does("link 0 1 5", "link 1 2 5", "reader 0");
        x.refuses("cut 1 0", NOT_POSSIBLE).refuses("cut 0 2", NOT_POSSIBLE).refuses("cut 2 1", NOT_POSSIBLE);
        for (int page = 0; page < 3; page++) {
            x.refuses("cut " + page + " " + page, NOT_POSSIBLE);
        }
        x.does("walk 0 1").refuses("cut 0 1", NOT_POSSIBLE).does("back 0").refuses("cut 0 1", NOT_POSSIBLE);
        x.due("cut 1 2", 5).refuses("cut 1 2", NOT_POSSIBLE).does("link 0 1 3").refuses("cut 0 1", NOT_POSSIBLE);
        x.does("season").due("cut 0 1", 3).refuses("cut 0 1", NOT_POSSIBLE);
        Run still = Run.pages(2).does("set 0 0", "link 0 1 5", "reader 0", "walk 0 1");
        still.refuses("cut 0 1", NOT_POSSIBLE).does("undo").due("cut 0 1", 5);
        Run sown = Run.garden("page 0", "page 1", "reader 0", "search 0 0").due("cut 0 1", 1);
        sown.refuses("cut 0 1", NOT_POSSIBLE);
    }

    private static void reader() throws IOException {
        promise(5, "`page`: number of a page");
        invalidFar(Run.garden(), "reader #", "0", "1");
        invalidFar(Run.pages(1), "reader #", "1");
        invalidFar(Run.pages(12), "reader #", "12");
        promise(5, "Returns the number");
        Run x = Run.pages(12).due("reader 11", 0).due("reader 0", 1).due("reader 11", 2).due("reader 3", 3);
        x.due("readerOf 0 0", 11).due("readerOf 3 0", 3).due("pageOf 11 5", 0).due("readerOf 3 1", 0);
        promise(5, "LIMIT_REACHED if there are 4.");
        x.refuses("reader 0", LIMIT).refuses("reader 11", LIMIT).refuses("reader 12", INVALID).refuses("reader -1", INVALID);
    }

    private static void walk() throws IOException {
        promise(6, "Returns the strength of the link then");
        Run x = Run.pages(12).does("link 0 11 93", "link 11 0 94", "reader 0").due("walk 0 11", 98).due("walk 0 0", 99);
        x.due("walk 0 11", 99).due("walk 0 0", 99).due("set 0 0", 5).due("walk 0 11", 99).due("linkOf 0 11 2", 3);
        x.due("readerOf 0 2", 5).due("count 7", 5).due("pageOf 11 5", 3).due("pageOf 0 5", 2).due("readerOf 0 1", 5);
        Run none = Run.pages(2).does("set 0 0", "link 0 1 1", "reader 0").due("walk 0 1", 1).due("linkOf 0 1 1", 1);
        none.does("back 0", "set 0 50").due("walk 0 1", 51).does("back 0").due("walk 0 1", 99);
    }

    private static void walkRefused() throws IOException {
        promise(6, "`reader`: number of the reader");
        Run x = Run.pages(12).does("link 0 1 5", "link 2 0 5", "link 1 2 5", "reader 0");
        invalidFar(x, "walk # 1", "1", "3", "4");
        invalidFar(Run.pages(2).does("link 0 1 5"), "walk # 1", "0");
        promise(6, "`to`: number of a page");
        invalidFar(x, "walk 0 #", "12", "13", "14");
        promise(6, "NOT_POSSIBLE if there is no link to it from the reader's page.");
        x.refuses("walk 0 0", NOT_POSSIBLE).refuses("walk 0 2", NOT_POSSIBLE).refuses("walk 0 11", NOT_POSSIBLE);
        x.does("walk 0 1").refuses("walk 0 0", NOT_POSSIBLE).refuses("walk 0 1", NOT_POSSIBLE);
        x.does("cut 1 2").refuses("walk 0 2", NOT_POSSIBLE);
    }

    private static void back() throws IOException {
        promise(7, "Returns the page then");
        Run x = Run.pages(12).does("link 11 0 5", "link 0 5 5", "reader 11", "walk 0 0", "walk 0 5");
        x.due("back 0", 0).due("readerOf 0 0", 0).due("back 0", 11).due("readerOf 0 0", 11).due("pageOf 11 5", 1);
        promise(7, "NOT_POSSIBLE if the trail is empty.");
        x.refuses("back 0", NOT_POSSIBLE).does("walk 0 0").due("back 0", 11).refuses("back 0", NOT_POSSIBLE);
        Run.pages(1).does("reader 0").refuses("back 0", NOT_POSSIBLE);
        Run long9 = Run.garden("page 1", "page 2", "reader 0");
        for (int i = 0; i < 9; i++) {
            long9.does("search 0 " + (i + 1) % 2);
        }
        for (int left = 7; left >= 0; left--) {
            long9.due("back 0", left % 2 == 0 ? 1 : 0);
        }
        long9.refuses("back 0", NOT_POSSIBLE).due("readerOf 0 2", 0).due("readerOf 0 3", 9);
        promise(7, "`reader`: number of the reader");
        invalidFar(x, "back #", "1", "4");
        invalidFar(Run.pages(2), "back #", "0");
    }

    private static void search() throws IOException {
        promise(8, "`word`: 0 to 15");
        Run x = Run.garden("page 0", "page 1", "page 32768", "reader 0").due("search 0 15", 2).due("search 0 0", 1);
        invalid(x, "search 0 #", "-1", "16", "17", "31", "32", "47", "-32", "-16", "MIN", "MAX");
        promise(8, "`reader`: number of the reader");
        invalidFar(x, "search # 0", "1", "4");
        invalidFar(Run.garden("page 1", "page 1"), "search # 0", "0");
        promise(8, "Returns the page then");
        x.due("search 0 15", 2).due("readerOf 0 0", 2).due("readerOf 0 3", 3).due("pageOf 2 5", 2).due("readerOf 0 2", 0);
        x.due("count 7", 0).due("count 8", 3).due("linkOf 0 2 0", 1).due("linkOf 2 1 0", 1).due("linkOf 1 2 0", 1);
    }

    private static void searchRefused() throws IOException {
        promise(8, "NOT_POSSIBLE if no other page has the word.");
        Run x = Run.garden("page 1", "page 2", "reader 0").refuses("search 0 0", NOT_POSSIBLE);
        x.refuses("search 0 15", NOT_POSSIBLE).refuses("search 0 2", NOT_POSSIBLE).due("search 0 1", 1);
        x.refuses("search 0 1", NOT_POSSIBLE).due("search 0 0", 0);
        Run.garden("page 65535", "reader 0").refuses("search 0 0", NOT_POSSIBLE).refuses("search 0 15", NOT_POSSIBLE);
        Run undone = Run.garden("page 1", "reader 0", "page 1", "undo").refuses("search 0 0", NOT_POSSIBLE);
        undone.does("page 1").due("search 0 0", 1);
    }

    private static void season() throws IOException {
        promise(9, "Returns how many links are gone by that.");
        Run.garden().due("season", 0).due("count 3", 1);
        Run.pages(12).due("season", 0);
        Run.links(40, 3).due("season", 40).due("count 1", 0).due("count 9", 40).due("count 10", 0).due("season", 0);
        Run both = Run.links(40, 4).does("set 2 1", "link 0 1 3", "link 0 2 2").due("withers 0", 36).due("season", 36);
        both.due("count 1", 4).due("count 9", 2).due("count 10", 34).due("season", 4).due("count 9", 6);
        Run walked = Run.pages(2).does("link 0 1 1", "link 1 0 3", "reader 0", "walk 0 1").due("season", 1);
        walked.due("count 1", 1).due("linkOf 0 1 0", 6);
    }

    private static void set() throws IOException {
        promise(10, "`what`: 0 to 2");
        Run x = Run.garden();
        invalidFar(x, "set # 5", "3", "20", "22");
        promise(10, "`value`: a value in its range");
        invalid(x, "set 0 #", "-1", "51", "99", "256", "MIN", "MAX");
        invalid(x, "set 1 #", "-1", "51", "99", "256", "MIN", "MAX");
        invalid(x, "set 2 #", "-1", "0", "12", "50", "257", "MIN", "MAX");
        promise(10, "Returns what it was");
        x.due("set 0 0", 5).due("set 0 50", 0).due("set 0 50", 50).due("set 0 1", 50).due("count 20", 1);
        x.due("set 1 50", 3).due("set 1 0", 50).due("set 1 1", 0).due("count 21", 1);
        x.due("set 2 1", 4).due("set 2 11", 1).due("set 2 11", 11).due("count 22", 11).due("count 20", 1);
        promise(10, "INVALID_ARGUMENT if an argument is out of range.");
        x.refuses("set 3 51", INVALID).refuses("set 2 0", INVALID).refuses("set 2 12", INVALID);
    }

    private static void pageOfRange() throws IOException {
        promise(11, "INVALID_ARGUMENT if an argument is out of range.");
        Run x = Run.pages(3);
        invalidFar(x, "pageOf # 0", "3", "12");
        invalidFar(x, "pageOf # 6", "3", "12");
        invalidFar(x, "pageOf 0 #", "7", "8");
        invalid(Run.pages(12), "pageOf # 5", "12", "-1");
        invalid(Run.garden(), "pageOf # 5", "0");
    }

    private static void pageOfLinks() throws IOException {
        promise(11, "0: its words; 1: pages to which links lead from it, as a set; 2: pages from which links lead to it, "
            + "as a set; 3: the strength of the links to it together");
        Run x = Run.pages(11).does("page 65535").due("pageOf 11 0", 65535).due("pageOf 10 0", 0);
        x.due("pageOf 11 1", 0).due("pageOf 11 2", 0).due("pageOf 11 3", 0);
        for (int page = 0; page < 11; page++) {
            x.does("link 11 " + page + " 1", "link " + page + " 11 99");
        }
        x.due("pageOf 11 1", 2047).due("pageOf 11 2", 2047).due("pageOf 11 3", 1089).due("pageOf 0 3", 1);
        x.does("cut 0 11").due("pageOf 11 2", 2046).due("pageOf 11 3", 990).due("pageOf 0 1", 0);
    }

    private static void pageOfReaders() throws IOException {
        promise(11, "4: readers at it; 5: how often readers came to it so far by walking, going back or searching");
        Run x = Run.garden("page 0", "page 1", "link 0 1 5", "reader 0", "reader 0", "reader 0", "reader 1");
        x.due("pageOf 0 4", 3).due("pageOf 1 4", 1).due("pageOf 0 5", 0).due("pageOf 1 5", 0);
        x.does("walk 0 1").due("pageOf 1 5", 1).due("pageOf 1 4", 2).due("pageOf 0 4", 2);
        x.does("search 1 0").due("pageOf 1 5", 2).does("back 0").due("pageOf 0 5", 1).due("pageOf 1 5", 2);
        x.does("walk 2 1", "walk 0 1").due("pageOf 1 4", 4).due("pageOf 0 4", 0).due("pageOf 1 5", 4);
        x.does("season").due("pageOf 1 5", 4).does("undo", "undo").due("pageOf 1 5", 3).due("pageOf 1 4", 3);
    }

    private static void pageOfReached() throws IOException {
        promise(11, "6: pages that are reached from it by ways, as a set (itself, too)");
        Run x = Run.pages(12).due("pageOf 0 6", 1).due("pageOf 11 6", 2048);
        for (int page = 11; page > 0; page--) {
            x.does("link " + page + " " + (page - 1) + " 1");
        }
        x.due("pageOf 11 6", 4095).due("pageOf 10 6", 2047).due("pageOf 1 6", 3).due("pageOf 0 6", 1);
        x.does("cut 6 5").due("pageOf 11 6", 4095 - 63).due("pageOf 5 6", 63);
        x.does("link 0 11 1").due("pageOf 5 6", 4095).due("pageOf 6 6", 64);
    }

    private static void linkOf() throws IOException {
        promise(12, "INVALID_ARGUMENT if an argument is out of range; NOT_FOUND if there is none.");
        Run x = Run.pages(3).does("link 0 1 99", "link 1 2 1");
        invalidFar(x, "linkOf # 1 0", "3", "12");
        invalidFar(x, "linkOf 0 # 0", "3", "12", "13");
        invalidFar(x, "linkOf 0 1 #", "3", "4");
        invalidFar(x, "linkOf 1 0 #", "3");
        invalidFar(x, "linkOf 1 1 #", "3");
        for (int what = 0; what <= 2; what++) {
            x.refuses("linkOf 1 0 " + what, NOT_FOUND).refuses("linkOf 1 1 " + what, NOT_FOUND);
        }
        x.due("linkOf 0 1 0", 99).due("linkOf 1 2 0", 1).due("linkOf 0 1 1", 0).due("linkOf 0 1 2", 0);
        x.does("reader 0", "walk 0 1").due("linkOf 0 1 1", 1).due("linkOf 1 2 1", 0);
        x.does("season").refuses("linkOf 1 2 0", NOT_FOUND).due("linkOf 0 1 1", 0);
    }

    private static void linkOfSinceItIsThere() throws IOException {
        promise(12, "2: how often it was walked so far (since it is there)");
        Run x = Run.pages(2).does("link 0 1 5", "reader 0", "walk 0 1", "back 0", "walk 0 1", "back 0");
        x.due("linkOf 0 1 2", 2).does("season").due("linkOf 0 1 2", 2).does("link 0 1 3").due("linkOf 0 1 2", 2);
        x.due("season", 1).due("link 0 1 5", 0).due("linkOf 0 1 2", 0).does("walk 0 1").due("linkOf 0 1 2", 1);
        x.does("season", "cut 0 1", "link 0 1 5").due("linkOf 0 1 2", 0);
        Run sown = Run.garden("page 0", "page 1", "link 0 1 5", "reader 0", "walk 0 1", "back 0", "season", "cut 0 1");
        sown.does("search 0 0").due("linkOf 0 1 2", 0).due("linkOf 0 1 0", 1);
        Run pruned = Run.pages(3).does("set 2 1", "set 0 0", "set 1 0", "link 0 1 5", "link 0 2 6", "reader 0");
        pruned.does("walk 0 1", "season").due("season", 0).due("linkOf 0 1 2", 1);
    }

    private static void readerOf() throws IOException {
        promise(13, "INVALID_ARGUMENT if an argument is out of range.");
        Run x = Run.garden("page 1", "page 2", "reader 0");
        invalidFar(x, "readerOf # 0", "1", "4");
        invalidFar(x, "readerOf 0 #", "5", "6");
        invalidFar(Run.pages(1), "readerOf # 0", "0");
        for (int what = 0; what <= 4; what++) {
            x.due("readerOf 0 " + what, 0);
        }
        promise(13, "1: how many pages the trail has; 2: walks so far; 3: searches so far; 4: pages of the trail, as a set");
        for (int i = 1; i <= 10; i++) {
            x.does("search 0 " + i % 2).due("readerOf 0 1", Math.min(i, 8)).due("readerOf 0 3", i);
            x.due("readerOf 0 4", i == 1 ? 1 : 3);
        }
        x.due("readerOf 0 2", 0).does("reader 1").due("readerOf 1 3", 0).due("readerOf 1 1", 0).due("readerOf 1 4", 0);
        Run all = Run.pages(12);
        for (int page = 11; page > 0; page--) {
            all.does("link " + page + " " + (page - 1) + " 5");
        }
        all.does("reader 11");
        for (int page = 10; page >= 0; page--) {
            all.does("walk 0 " + page);
        }
        all.due("readerOf 0 4", 2 * 255).due("readerOf 0 2", 11).due("readerOf 0 0", 0);
    }

    private static void trail() throws IOException {
        promise(14, "INVALID_ARGUMENT if there is no such reader or index is below 0");
        Run x = Run.garden("page 1", "page 2", "reader 0");
        invalidFar(x, "trail # 0", "1", "4");
        invalid(x, "trail 0 #", "-1", "-2", "-8", "MIN");
        promise(14, "NOT_FOUND if there are not so many.");
        x.refuses("trail 0 0", NOT_FOUND).refuses("trail 0 MAX", NOT_FOUND);
        for (int length = 1; length <= 10; length++) {
            x.does("search 0 " + length % 2).due("trail 0 0", (length + 1) % 2);
            x.due("trail 0 " + (Math.min(length, 8) - 1), length <= 8 ? 0 : (length + 1 - 7) % 2);
            x.refuses("trail 0 " + Math.min(length, 8), NOT_FOUND);
        }
        x.refuses("trail 0 8", NOT_FOUND).refuses("trail 0 9", NOT_FOUND).refuses("trail 0 MAX", NOT_FOUND);
        x.does("back 0").refuses("trail 0 7", NOT_FOUND);
    }

    private static void way() throws IOException {
        promise(15, "INVALID_ARGUMENT if there is no such page or index is below -1");
        Run x = Run.pages(4).does("link 0 1 5", "link 1 2 5");
        invalidFar(x, "way # 0 0", "4", "12");
        invalidFar(x, "way 0 # 0", "4", "12");
        invalid(x, "way 0 2 #", "-2", "-3", "MIN");
        invalid(x, "way 0 3 #", "-2", "MIN");
        invalid(x, "way 0 0 #", "-2", "MIN");
        promise(15, "NOT_FOUND if there is no way, or it has not so many pages.");
        x.refuses("way 0 3 -1", NOT_FOUND).refuses("way 0 3 0", NOT_FOUND).refuses("way 2 0 0", NOT_FOUND);
        x.refuses("way 0 2 3", NOT_FOUND).refuses("way 0 2 MAX", NOT_FOUND).refuses("way 0 0 1", NOT_FOUND);
        promise(15, "`index`: 0 for the first page (from), and so on; -1: how many links the way has");
        x.due("way 0 2 -1", 2).due("way 0 2 0", 0).due("way 0 2 1", 1).due("way 0 2 2", 2);
        x.due("way 3 3 -1", 0).due("way 3 3 0", 3).due("way 1 2 -1", 1);
    }

    private static void would() throws IOException {
        promise(16, "INVALID_ARGUMENT if an argument is out of range; NOT_FOUND if no other page has the word.");
        Run x = Run.garden("page 1", "page 32768", "page 32768", "reader 0");
        invalidFar(x, "would # 0", "1", "4");
        invalid(x, "would 0 #", "-1", "16", "17", "31", "32", "47", "-32", "MIN", "MAX");
        x.refuses("would 0 0", NOT_FOUND).refuses("would 0 1", NOT_FOUND).refuses("would 0 14", NOT_FOUND);
        x.leaves("would 0 15").due("would 0 15", 1).due("readerOf 0 0", 0).due("readerOf 0 3", 0).due("count 8", 0);
        x.does("link 0 2 5").due("would 0 15", 2).due("search 0 15", 2).due("would 0 15", 1).due("would 0 0", 0);
        Run.garden("page 1", "reader 0").refuses("would 0 0", NOT_FOUND);
        Run full = Run.links(40, 5).does("reader 4");
        full.refuses("would 0 0", NOT_FOUND);
    }

    private static void withers() throws IOException {
        promise(17, "INVALID_ARGUMENT if what is out of range.");
        Run x = Run.links(40, 4).does("link 0 1 3", "set 2 10");
        invalidFar(x, "withers #", "3", "4");
        invalidFar(Run.garden(), "withers #", "3");
        promise(17, "0: in all; 1: those that would wither; 2: those that would be pruned");
        x.leaves("withers 0").due("withers 0", 3).due("withers 1", 1).due("withers 2", 2).due("count 1", 40);
        x.does("set 1 50").due("withers 0", 40).due("withers 1", 40).due("withers 2", 0);
        x.does("set 1 0", "set 2 11").due("withers 0", 0).due("withers 1", 0).due("withers 2", 0);
        x.does("set 1 4", "season").due("withers 0", 0).due("withers 1", 0).due("withers 2", 0);
        x.does("link 0 1 4", "link 0 2 5").due("withers 0", 1).due("withers 1", 1);
        Run again = Run.links(40, 5).does("set 1 0", "set 2 10", "season").due("count 10", 3).does("set 2 9");
        again.due("withers 2", 3).due("withers 0", 3).due("withers 1", 0).does("set 1 5", "season").due("count 9", 37);
        again.does("link 0 1 1").due("withers 1", 1).due("withers 2", 0).due("withers 0", 1);
    }

    private static void rescueChooses() throws IOException {
        promise(18, "of the links that were not walked in this season and would be gone by its end, the strongest one, "
            + "of several the one from the lowest page, of these the one to the lowest page.");
        Run x = Run.pages(12).does("link 11 10 3").due("rescue 0", 11).due("rescue 1", 10);
        x.does("link 11 9 3").due("rescue 0", 11).due("rescue 1", 9);
        x.does("link 2 11 3").due("rescue 0", 2).due("rescue 1", 11).does("link 1 0 2").due("rescue 0", 2);
        x.does("link 5 4 4").due("rescue 0", 2).does("set 1 4").due("rescue 0", 5).due("rescue 1", 4);
        Run pruned = Run.pages(12).does("set 2 1", "link 3 0 20", "link 3 1 21", "link 0 1 3");
        pruned.due("rescue 0", 3).due("rescue 1", 0).does("link 3 0 22").due("rescue 1", 1);
        Run walked = Run.pages(4).does("set 0 0", "link 0 1 3", "link 1 2 2", "reader 0").due("rescue 0", 0);
        walked.does("walk 0 1").due("rescue 0", 1).due("rescue 1", 2).does("walk 0 2").refuses("rescue 0", NOT_FOUND);
        walked.does("season").due("rescue 0", 0).due("rescue 1", 1);
    }

    private static void rescueRefused() throws IOException {
        promise(18, "INVALID_ARGUMENT if what is out of range; NOT_FOUND if there is none.");
        Run none = Run.pages(3).does("link 0 1 4").refuses("rescue 0", NOT_FOUND).refuses("rescue 1", NOT_FOUND);
        invalidFar(none, "rescue #", "2", "3");
        Run x = none.twin().does("link 1 2 3").due("rescue 0", 1).due("rescue 1", 2).leaves("rescue 0");
        invalidFar(x, "rescue #", "2", "3");
        x.does("set 1 0").refuses("rescue 0", NOT_FOUND).refuses("rescue 1", NOT_FOUND);
        Run.garden().refuses("rescue 0", NOT_FOUND).refuses("rescue 2", INVALID);
    }

    private static void hub() throws IOException {
        promise(19, "INVALID_ARGUMENT if what is out of range; NOT_FOUND if there is no link.");
        Run x = Run.pages(12).refuses("hub 0", NOT_FOUND).refuses("hub 1", NOT_FOUND);
        invalidFar(x, "hub #", "2", "3");
        x.does("link 0 11 1").due("hub 0", 11).due("hub 1", 1);
        invalidFar(x, "hub #", "2", "3");
        promise(19, "Finds the page with the greatest strength of links to it, of several the lowest.");
        x.does("link 0 10 1").due("hub 0", 10).does("link 11 0 1").due("hub 0", 0).due("hub 1", 1);
        x.does("link 1 11 1").due("hub 0", 11).due("hub 1", 2).does("link 0 5 2").due("hub 0", 5);
        x.does("link 0 11 99", "link 1 11 99").due("hub 0", 11).due("hub 1", 198);
        x.does("season").due("hub 1", 192).does("cut 0 11", "cut 1 11").refuses("hub 0", NOT_FOUND);
    }

    private static void mean() throws IOException {
        promise(20, "Returns the bits of the float; NOT_FOUND if there are none.");
        Run x = Run.pages(12).refuses("mean", NOT_FOUND).does("link 0 1 1").due("mean", 0x3f800000);
        x.does("link 0 1 99").due("mean", 0x42c60000).does("link 0 2 98").due("mean", bits(197, 2));
        x.does("link 0 3 1").due("mean", bits(198, 3)).does("cut 0 1", "cut 0 2", "cut 0 3").refuses("mean", NOT_FOUND);
        promise(20, "their strength together, as a float, divided by how many there are, as a float");
        Run.links(40, 99).due("mean", bits(3960, 40));
        Run.links(40, 1).due("mean", bits(40, 40)).does("link 0 1 2").due("mean", bits(41, 40));
        Run.links(39, 1).does("link 0 1 2").due("mean", bits(40, 39)).does("link 0 2 99").due("mean", bits(138, 39));
        Run.links(3, 1).does("link 0 1 2").due("mean", bits(4, 3)).does("link 0 2 2").due("mean", bits(5, 3));
        Run.links(7, 63).does("link 0 1 64").due("mean", bits(442, 7)).does("link 0 1 70").due("mean", bits(448, 7));
    }

    private static int bits(int sum, int number) {
        return Float.floatToIntBits((float) sum / (float) number);
    }

    private static void countRange() throws IOException {
        promise(21, "INVALID_ARGUMENT if what is out of range.");
        invalid(Run.pages(1), "count #", "-1", "13", "14", "15", "16", "17", "18", "19", "23", "24", "32", "MIN", "MAX");
        promise(21, "11: states in the history; 12: the length of the text; 20 to 22: the settings 0 to 2");
        Run x = Run.garden().due("count 11", 0).due("count 12", 0).due("count 20", 5).due("count 21", 3);
        x.due("count 22", 4).does("set 2 11", "set 1 50", "set 0 50").due("count 11", 3).due("count 20", 50);
        x.due("count 21", 50).due("count 22", 11).types("e;").due("count 12", 2).does("play").due("count 11", 4);
        x.does("play").due("count 11", 4).due("count 12", 2).types("e;".repeat(29)).due("count 12", 60);
    }

    private static void countSets() throws IOException {
        promise(21, "5: pages without links from them, as a set; 6: pages without links to them, as a set");
        Run.garden().due("count 5", 0).due("count 6", 0);
        Run.pages(1).due("count 5", 1).due("count 6", 1);
        Run x = Run.pages(12).due("count 5", 4095).due("count 6", 4095);
        for (int page = 0; page < 12; page++) {
            x.does("link " + page + " " + (page + 1) % 12 + " 5");
        }
        x.due("count 5", 0).due("count 6", 0).does("cut 11 0").due("count 5", 2048).due("count 6", 1);
    }

    private static void countSoFar() throws IOException {
        promise(21, "7: walks so far; 8: links that were sown so far; 9: links that withered so far; "
            + "10: links that were pruned so far");
        Run x = Run.garden("page 1", "page 2", "page 2", "reader 0", "reader 0", "link 0 1 9", "set 2 1");
        x.does("walk 0 1", "walk 1 1", "back 1").due("count 7", 2).does("search 0 0").due("count 8", 1).due("count 7", 2);
        x.does("link 0 2 9").due("season", 2).due("count 9", 1).due("count 10", 1).due("count 8", 1).due("count 7", 2);
        x.does("season").due("count 9", 1).due("count 10", 1).due("count 3", 2).does("cut 0 1").due("count 9", 1);
        x.due("count 10", 1).due("count 1", 0).does("search 0 1").due("count 8", 2);
        promise(21, "3: seasons so far; 4: links that were walked in this season");
        Run y = Run.links(40, 5).does("reader 0");
        y.does("walk 0 1", "walk 0 0", "walk 0 1", "walk 0 2").due("count 4", 3).due("count 7", 4);
        y.does("back 0").due("count 4", 3).does("season").due("count 4", 0).due("count 3", 1);
    }

    private static void undo() throws IOException {
        promise(22, "NOT_POSSIBLE if it is empty.");
        Run x = Run.garden().refuses("undo", NOT_POSSIBLE).does("page 1").due("undo", 0).refuses("undo", NOT_POSSIBLE);
        x.types("e;").refuses("undo", NOT_POSSIBLE).due("clearText", 2).refuses("undo", NOT_POSSIBLE);
        x.refuses("page -1", INVALID).refuses("undo", NOT_POSSIBLE);
        promise(22, "Returns the number of states that are left in the history");
        x.does("page 1", "page 2", "page 4", "page 8", "page 16", "page 32");
        x.due("undo", 3).due("undo", 2).due("undo", 1).due("undo", 0).due("count 0", 2).refuses("undo", NOT_POSSIBLE);
        promise(22, "Restores the latest state of the history, which is removed from it.");
        x.does("page 64").due("count 11", 1).due("pageOf 2 0", 64).does("undo", "page 128").due("pageOf 2 0", 128);
        x.due("count 11", 1).due("undo", 0).due("count 0", 2).due("pageOf 1 0", 2).refuses("pageOf 2 0", INVALID);
        Run mixed = Run.pages(2).does("link 0 1 5", "season", "undo", "link 0 1 9", "undo").due("linkOf 0 1 0", 5);
        mixed.due("undo", 2).due("linkOf 0 1 0", NOT_FOUND).due("count 3", 0);
    }

    private static void undoOfAll() throws IOException {
        promise(22, "Restores the latest state of the history");
        Run x = Run.garden("page 1", "page 2", "page 4", "link 0 1 20", "link 1 2 3", "reader 0", "walk 0 1");
        String[] changes = {"page 0", "link 0 2 9", "link 0 1 1", "cut 1 2", "reader 2", "walk 0 2", "back 0", "search 0 0",
            "season", "set 0 0", "set 1 0", "set 2 1", "play"};
        x.types("w0,2;s0,0;e;p9999;l3,0,99;b0;");
        for (String change : changes) {
            x.changes(change).records(change);
        }
        Run again = x.twin().does("reader 1", "search 1 2", "back 1", "search 1 2", "undo", "undo", "undo", "undo");
        again.due("reader 2", 1).due("readerOf 1 0", 2).due("readerOf 1 1", 0).due("readerOf 1 3", 0);
        Run walked = Run.pages(2).does("link 0 1 5", "reader 0", "walk 0 1", "undo").due("linkOf 0 1 0", 5);
        walked.due("linkOf 0 1 1", 0).due("linkOf 0 1 2", 0).due("pageOf 1 5", 0).due("readerOf 0 2", 0).due("cut 0 1", 5);
    }

    private static void type() throws IOException {
        promise(23, "`character`: 32 to 126");
        Run x = Run.garden().due("type 32", 1).due("type 126", 2).due("type 33", 3).due("type 125", 4);
        promise(23, "INVALID_ARGUMENT if character is out of range");
        invalid(x, "type #", "31", "127", "128", "0", "10", "-1", "255", "288", "65568", "65637", "MIN", "MAX");
        promise(23, "LIMIT_REACHED if it has 60 characters.");
        for (int length = 5; length <= 60; length++) {
            x.due("type " + (27 + length), length);
        }
        x.refuses("type 32", LIMIT).refuses("type 126", LIMIT).refuses("type 31", INVALID).refuses("type 127", INVALID);
        x.due("count 12", 60).due("count 11", 0).due("clearText", 60).due("type 126", 1);
    }

    private static void clearText() throws IOException {
        promise(24, "Returns the length it had.");
        Run x = Run.garden().due("clearText", 0).types("x").due("clearText", 1).due("count 12", 0).due("clearText", 0);
        x.types("x".repeat(60)).due("clearText", 60).due("count 12", 0).types("p7;").due("play", 1).due("pageOf 0 0", 7);
        promise(24, "Empties the text.");
        x.does("clearText").refuses("fault 0", NOT_FOUND).due("play", 0).due("count 0", 1).types("e").due("fault 2", 1);
        x.does("clearText").types("p").due("fault 2", 1).types("8;").due("play", 1).due("pageOf 1 0", 8);
    }

    private static void fault() throws IOException {
        promise(25, "INVALID_ARGUMENT if what is out of range");
        Run x = Run.garden();
        invalidFar(x, "fault #", "3", "4");
        x.types("p1;x");
        invalidFar(x, "fault #", "3", "4");
        x.leaves("fault 0").due("fault 0", 3).due("fault 1", 1).due("fault 2", 0).due("count 0", 0);
        promise(25, "NOT_FOUND if the text has no fault (also if it is empty).");
        Run none = Run.garden();
        for (int what = 0; what <= 2; what++) {
            none.refuses("fault " + what, NOT_FOUND);
        }
        none.types("p1;");
        for (int what = 0; what <= 2; what++) {
            none.refuses("fault " + what, NOT_FOUND);
        }
        Run then = Run.pages(11).types("p1;").refuses("fault 0", NOT_FOUND).does("page 0").due("fault 2", LIMIT);
        then.does("undo").refuses("fault 0", NOT_FOUND).types(" ").due("fault 0", 3).due("fault 1", 1);
        Run full = Run.garden().types("e;".repeat(30)).refuses("fault 0", NOT_FOUND);
        full.due("count 12", 60);
    }

    private static void play() throws IOException {
        promise(26, "Does all orders of the text, which stays.");
        Run x = Run.garden().types("p1;p2;l0,1,5;e;").due("play", 4).due("count 12", 15).due("count 0", 2);
        x.due("linkOf 0 1 0", 2).due("count 3", 1).due("play", 4).due("count 0", 4).due("count 12", 15);
        promise(26, "Returns how many there are in it");
        Run.garden().due("play", 0).types("e;").due("play", 1).types("e;".repeat(29)).due("play", 30).due("count 3", 31);
        promise(26, "NOT_POSSIBLE if it has a fault.");
        Run faults = Run.pages(2).types("p1;e").refuses("play", NOT_POSSIBLE).types(";").due("play", 2);
        faults.types("b0;").refuses("play", NOT_POSSIBLE).due("count 0", 3).due("count 3", 1);
        faults.does("reader 0").refuses("play", NOT_POSSIBLE).due("fault 2", NOT_POSSIBLE);
        Run.pages(12).types("e;p1;").refuses("play", NOT_POSSIBLE).due("fault 2", LIMIT).due("count 3", 0);
        Run last = Run.pages(11).types("p1;p1;").refuses("play", NOT_POSSIBLE);
        last.due("count 0", 11);
    }

    private static void playAsOneChange() throws IOException {
        promise(26, "They are one change, also if there are none.");
        Run x = Run.garden().due("play", 0).due("count 11", 1).due("play", 0).due("count 11", 2).due("undo", 1);
        x.due("undo", 0).refuses("undo", NOT_POSSIBLE).types("p1;p2;p3;p4;p5;p6;").due("play", 6).due("count 11", 1);
        x.due("count 0", 6).due("undo", 0).due("count 0", 0).due("count 12", 18);
        Run full = Run.pages(6).does("clearText").records("play").due("play", 0).due("count 11", 4);
        full.due("undo", 3).due("undo", 2).due("count 0", 5);
    }
}
