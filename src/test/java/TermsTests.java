import java.io.IOException;

/** The boundary cases of the document's section 'Terms', a test for each sentence that names one. */
public final class TermsTests {
    private static final int INVALID = Run.INVALID;
    private static final int NOT_POSSIBLE = Run.NOT_POSSIBLE;
    private static final int LIMIT = Run.LIMIT;
    private static final int NOT_FOUND = Run.NOT_FOUND;

    public static void main(String[] args) throws IOException {
        setsAsBits();
        mostPages();
        pageNumbers();
        wordsOfPages();
        oneLinkOrNone();
        strengths();
        walkedOrNot();
        mostLinks();
        roomForLinksAgain();
        mostReaders();
        readerNumbers();
        mostOnTrail();
        earliestForgotten();
        growth();
        walkedByWalking();
        trailOfWalker();
        goingBack();
        goingBackWithoutLinks();
        searchAmongOthers();
        searchNearest();
        searchWithoutWay();
        trailOfSearcher();
        sowing();
        nothingSown();
        weakening();
        withering();
        pruningByNumber();
        pruningWeakest();
        pruningLowest();
        pruningAgain();
        pruningWalked();
        orderOfSeason();
        newSeason();
        wayToItself();
        shortestWay();
        lowestWay();
        settings();
        lengthOfText();
        endOfOrder();
        orderOfPage();
        orderOfLink();
        orderOfWalk();
        orderOfSearch();
        ordersOfBackAndSeason();
        digits();
        firstFault();
        reasons();
        whereItBreaksOff();
        endOfText();
        codeOfCall();
        whatIsChange();
        whatIsNoChange();
        changeWithoutDifference();
        mostStates();
        recordedBefore();
        oldestDropped();
        orderOfErrors();
        refusedChangesNothing();
        refusedWhenFull();
        noSuchPageOrReader();
        constants();
        Run.end();
    }

    private static void terms(String words) throws IOException {
        Run.sentence("Terms", words);
    }

    private static void setsAsBits() throws IOException {
        terms("Sets of pages or words are told as bits: bit k is for number k.");
        Run x = Run.pages(12).does("link 0 11 5", "link 11 0 5", "link 11 10 5", "reader 11");
        x.due("pageOf 0 1", 1 << 11).due("pageOf 11 1", 1 | 1 << 10);
        x.due("pageOf 0 2", 1 << 11).due("pageOf 11 2", 1);
        x.due("pageOf 0 6", 1 | 1 << 10 | 1 << 11).due("pageOf 10 6", 1 << 10);
        x.due("count 5", 4095 - 1 - (1 << 11)).due("count 6", 4095 - 1 - (1 << 10) - (1 << 11));
        x.does("walk 0 0").due("readerOf 0 4", 1 << 11).does("walk 0 11").due("readerOf 0 4", 1 | 1 << 11);
        Run.garden("page 0", "page 1", "page 32768", "reader 0").due("would 0 0", 1).due("would 0 15", 2);
    }

    // ---- pages, links

    private static void mostPages() throws IOException {
        terms("There are at most 12 pages");
        Run x = Run.pages(11);
        x.due("page 0", 11).due("count 0", 12).refuses("page 0", LIMIT);
        x.due("pageOf 11 0", 0).refuses("pageOf 12 0", INVALID);
        x.does("undo").due("count 0", 11).due("page 7", 11).due("pageOf 11 0", 7).refuses("page 0", LIMIT);
        Run orders = Run.pages(10).types("p1;p2;p3;");
        orders.due("fault 0", 6).due("fault 1", 2).due("fault 2", LIMIT).refuses("play", NOT_POSSIBLE);
        Run.pages(10).types("p1;p2;").due("play", 2).due("count 0", 12).refuses("play", NOT_POSSIBLE);
    }

    private static void pageNumbers() throws IOException {
        terms("numbered from 0 in the order in which they came, each with words");
        Run x = Run.garden();
        for (int page = 0; page < 12; page++) {
            x.due("page " + (100 + page), page);
        }
        for (int page = 0; page < 12; page++) {
            x.due("pageOf " + page + " 0", 100 + page);
        }
    }

    private static void wordsOfPages() throws IOException {
        terms("each with words (a set of the words 0 to 15)");
        Run x = Run.garden("page 0", "page 65535", "reader 0", "reader 1");
        for (int word = 0; word <= 15; word++) {
            x.due("would 0 " + word, 1).due("would 1 " + word, NOT_FOUND);
        }
        for (int word = 0; word <= 15; word++) {
            Run one = Run.garden("page 0", "page " + (65535 - (1 << word)), "page " + (1 << word), "reader 0");
            one.due("would 0 " + word, 2).due("would 0 " + (word + 1) % 16, 1);
        }
    }

    private static void oneLinkOrNone() throws IOException {
        terms("From a page to another one there is a link or none");
        Run x = Run.pages(12).does("link 0 1 5", "link 0 1 6", "link 11 10 3");
        x.due("count 1", 2).due("linkOf 0 1 0", 6).due("linkOf 1 0 0", NOT_FOUND);
        x.does("link 1 0 9").due("count 1", 3).due("linkOf 0 1 0", 6).due("linkOf 1 0 0", 9);
        for (int page = 0; page < 12; page++) {
            x.refuses("link " + page + " " + page + " 5", INVALID);
            x.due("linkOf " + page + " " + page + " 0", NOT_FOUND);
        }
    }

    private static void strengths() throws IOException {
        terms("a link has a strength (1 to 99)");
        Run x = Run.pages(3).does("link 0 1 1", "link 0 2 99");
        x.due("linkOf 0 1 0", 1).due("linkOf 0 2 0", 99);
        x.refuses("link 0 1 0", INVALID).refuses("link 0 1 100", INVALID);
        x.refuses("link 1 0 0", INVALID).refuses("link 1 0 100", INVALID);
        x.does("set 1 1", "season").due("linkOf 0 1 0", NOT_FOUND).due("linkOf 0 2 0", 98);
        x.does("set 0 1", "reader 0", "walk 0 2", "back 0").due("walk 0 2", 99);
    }

    private static void walkedOrNot() throws IOException {
        terms("and was walked in this season or not");
        Run x = Run.pages(3).does("link 0 1 5", "link 0 2 5", "reader 0", "reader 0");
        x.due("linkOf 0 1 1", 0).due("count 4", 0);
        x.does("walk 0 1").due("linkOf 0 1 1", 1).due("count 4", 1);
        x.does("walk 1 1").due("linkOf 0 1 1", 1).due("count 4", 1).due("linkOf 0 2 1", 0);
    }

    private static void mostLinks() throws IOException {
        terms("There are at most 40 links.");
        Run x = Run.links(39, 5);
        x.due("link 11 0 5", 0).due("count 1", 40).refuses("link 11 1 5", LIMIT).refuses("link 3 7 1", LIMIT);
        Run orders = Run.links(39, 5).types("l11,0,5;l11,1,5;");
        orders.due("fault 0", 8).due("fault 1", 2).due("fault 2", LIMIT).refuses("play", NOT_POSSIBLE);
        Run.links(39, 5).types("l11,0,5;l11,0,6;").due("play", 2).due("count 1", 40).due("linkOf 11 0 0", 6);
    }

    private static void roomForLinksAgain() throws IOException {
        terms("There are at most 40 links.");
        Run.links(40, 5).does("cut 0 1").due("link 11 0 5", 0).refuses("link 11 1 5", LIMIT);
        Run.links(40, 5).does("undo").due("link 11 0 5", 0).refuses("link 11 1 5", LIMIT);
        Run withered = Run.links(40, 5).does("link 0 1 1", "set 1 1", "set 2 11", "season").due("count 1", 39);
        withered.due("link 0 1 5", 0).refuses("link 11 1 5", LIMIT);
        Run pruned = Run.links(40, 5).does("set 1 0", "set 2 10", "season").due("count 1", 37);
        pruned.does("link 11 1 5", "link 11 2 5", "link 11 3 5").refuses("link 11 4 5", LIMIT);
    }

    // ---- readers

    private static void mostReaders() throws IOException {
        terms("There are at most 4 readers");
        Run x = Run.pages(2).does("reader 0", "reader 0", "reader 1");
        x.due("reader 1", 3).due("count 2", 4).refuses("reader 0", LIMIT).refuses("reader 1", LIMIT);
        x.due("readerOf 3 0", 1).refuses("readerOf 4 0", INVALID);
        x.does("undo").due("count 2", 3).refuses("readerOf 3 0", INVALID).due("reader 0", 3);
    }

    private static void readerNumbers() throws IOException {
        terms("numbered from 0 in the order in which they came, each at a page");
        Run x = Run.pages(12);
        x.due("reader 11", 0).due("reader 0", 1).due("reader 11", 2).due("reader 5", 3);
        x.due("readerOf 0 0", 11).due("readerOf 1 0", 0).due("readerOf 2 0", 11).due("readerOf 3 0", 5);
        x.due("pageOf 11 4", 2).due("pageOf 0 4", 1).due("pageOf 1 4", 0);
    }

    /** A garden in which a reader has walked from page 0 on to the next ones, so many times. */
    private static Run walked(int times) {
        Run x = Run.pages(12);
        for (int page = 0; page < times; page++) {
            x.does("link " + page + " " + (page + 1) + " 5");
        }
        x.does("reader 0");
        for (int page = 1; page <= times; page++) {
            x.does("walk 0 " + page);
        }
        return x;
    }

    private static void mostOnTrail() throws IOException {
        terms("with a trail of at most 8 pages");
        walked(0).due("readerOf 0 1", 0).due("readerOf 0 4", 0).due("trail 0 0", NOT_FOUND);
        walked(7).due("readerOf 0 1", 7).due("trail 0 6", 0).due("trail 0 7", NOT_FOUND);
        walked(8).due("readerOf 0 1", 8).due("trail 0 7", 0).due("trail 0 8", NOT_FOUND).due("readerOf 0 4", 255);
        walked(9).due("readerOf 0 1", 8).due("trail 0 7", 1).due("trail 0 8", NOT_FOUND).due("readerOf 0 4", 510);
        Run x = walked(11).due("readerOf 0 1", 8).due("readerOf 0 4", 2047 - 7);
        for (int left = 7; left >= 0; left--) {
            x.due("back 0", 3 + left).due("readerOf 0 1", left);
        }
        x.refuses("back 0", NOT_POSSIBLE);
    }

    private static void earliestForgotten() throws IOException {
        terms("the latest one first; of more the earliest ones are forgotten");
        Run x = walked(11);
        for (int index = 0; index < 8; index++) {
            x.due("trail 0 " + index, 10 - index);
        }
        x.due("back 0", 10).due("trail 0 0", 9).due("trail 0 6", 3).due("trail 0 7", NOT_FOUND);
        x.does("walk 0 11").due("trail 0 0", 10).due("trail 0 7", 3);
    }

    private static void growth() throws IOException {
        terms("the link's strength becomes greater by setting 0, but not above 99");
        int[][] cases = {{5, 1, 6}, {5, 93, 98}, {5, 94, 99}, {5, 95, 99}, {5, 99, 99}, {0, 1, 1}, {0, 99, 99},
            {1, 98, 99}, {1, 99, 99}, {50, 1, 51}, {50, 49, 99}, {50, 50, 99}, {50, 99, 99}};
        for (int[] one : cases) {
            Run x = Run.pages(2).does("set 0 " + one[0], "link 0 1 " + one[1], "reader 0");
            x.due("walk 0 1", one[2]).due("linkOf 0 1 0", one[2]).due("hub 1", one[2]);
        }
    }

    private static void walkedByWalking() throws IOException {
        terms("and it was walked in this season");
        Run.pages(2).does("link 0 1 99", "reader 0", "walk 0 1").due("linkOf 0 1 1", 1).due("linkOf 0 1 2", 1);
        Run x = Run.pages(2).does("set 0 0", "link 0 1 1", "link 1 0 1", "reader 0", "walk 0 1");
        x.due("linkOf 0 1 1", 1).due("linkOf 1 0 1", 0).due("season", 1).due("linkOf 0 1 0", 1);
    }

    private static void trailOfWalker() throws IOException {
        terms("the page that is left comes to the trail");
        Run x = Run.pages(2).does("link 0 1 5", "link 1 0 5", "reader 0", "walk 0 1", "walk 0 0", "walk 0 1");
        x.due("readerOf 0 1", 3).due("trail 0 0", 0).due("trail 0 1", 1).due("trail 0 2", 0).due("readerOf 0 4", 3);
    }

    private static void goingBack() throws IOException {
        terms("A reader who goes back goes to the latest page of the trail, which leaves it");
        Run x = walked(1).due("back 0", 0).due("readerOf 0 0", 0).due("readerOf 0 1", 0).due("readerOf 0 4", 0);
        x.due("trail 0 0", NOT_FOUND).refuses("back 0", NOT_POSSIBLE);
        Run again = Run.pages(2).does("link 0 1 5", "link 1 0 5", "reader 0", "walk 0 1", "walk 0 0", "walk 0 1");
        again.due("back 0", 0).due("readerOf 0 4", 3).due("back 0", 1).due("readerOf 0 4", 1);
        again.due("back 0", 0).due("readerOf 0 4", 0);
    }

    private static void goingBackWithoutLinks() throws IOException {
        terms("links do not matter");
        Run x = walked(2).due("back 0", 1).due("linkOf 1 2 0", 10).due("linkOf 1 2 2", 1).due("linkOf 0 1 0", 10);
        x.due("count 1", 2).due("count 4", 2).due("count 8", 0);
        x.does("season").does("cut 0 1", "cut 1 2").due("back 0", 0).due("count 1", 0);
        Run both = Run.pages(2).does("link 0 1 5", "link 1 0 5", "reader 0", "walk 0 1");
        both.due("back 0", 0).due("linkOf 1 0 0", 5).due("linkOf 1 0 1", 0).due("linkOf 1 0 2", 0);
    }

    private static void searchAmongOthers() throws IOException {
        terms("A reader who searches for a word looks through all other pages that have the word");
        Run x = Run.garden("page 1", "page 2", "page 1", "reader 0");
        x.due("search 0 0", 2).due("search 0 0", 0).due("search 0 1", 1).refuses("search 0 1", NOT_POSSIBLE);
        Run loop = Run.garden("page 1", "page 0", "link 0 1 5", "link 1 0 5", "reader 0");
        loop.refuses("search 0 0", NOT_POSSIBLE);
        Run.garden("page 1", "reader 0").refuses("search 0 0", NOT_POSSIBLE);
        Run ends = Run.pages(11).does("page 1", "reader 0");
        ends.due("search 0 0", 11).refuses("search 0 0", NOT_POSSIBLE);
    }

    private static void searchNearest() throws IOException {
        terms("the one to which the way is shortest (see below), of several the lowest one");
        Run x = Run.garden("page 0", "page 1", "page 1", "page 1", "page 0", "reader 0");
        x.does("link 0 4 5", "link 4 1 5", "link 0 3 5", "link 1 0 5", "link 2 0 5").due("would 0 0", 3);
        x.does("link 0 2 5").due("would 0 0", 2).does("link 0 1 5").due("would 0 0", 1);
        Run far = Run.pages(8).does("page 1", "page 1", "page 0", "page 0", "reader 0");
        far.does("link 0 11 5", "link 11 10 5", "link 10 9 5", "link 10 7 5", "link 7 8 5").due("search 0 0", 9);
        Run tie = Run.pages(8).does("page 1", "page 1", "page 0", "page 0", "reader 0");
        tie.does("link 0 10 5", "link 10 9 5", "link 0 11 5", "link 11 8 5").due("search 0 0", 8);
    }

    private static void searchWithoutWay() throws IOException {
        terms("those to which there is no way come behind all others, the lowest one first");
        Run.garden("page 0", "page 0", "page 1", "page 1", "reader 0").due("search 0 0", 2);
        Run back = Run.garden("page 0", "page 0", "page 1", "page 1", "link 2 0 5", "link 3 0 5", "reader 0");
        back.due("search 0 0", 2);
        Run far = Run.garden("page 0", "page 1");
        for (int page = 2; page < 12; page++) {
            far.does("page " + (page == 11 ? 1 : 0), "link " + (page == 2 ? 0 : page - 1) + " " + page + " 5");
        }
        far.does("reader 0").due("way 0 11 -1", 10).due("search 0 0", 11).due("search 0 0", 1);
        Run own = Run.garden("page 1", "page 1", "page 0", "page 1", "link 2 3 5", "reader 2");
        own.due("would 0 0", 3).does("cut 2 3").due("would 0 0", 0);
    }

    private static void trailOfSearcher() throws IOException {
        terms("The reader goes there (the page that is left comes to the trail).");
        Run x = Run.garden("page 1", "page 2", "reader 0").due("search 0 1", 1);
        x.due("readerOf 0 0", 1).due("readerOf 0 1", 1).due("trail 0 0", 0).due("pageOf 1 4", 1).due("pageOf 0 4", 0);
        for (int i = 0; i < 9; i++) {
            x.does("search 0 " + i % 2);
        }
        x.due("readerOf 0 1", 8).due("trail 0 0", 1).due("trail 0 7", 0).due("trail 0 8", NOT_FOUND);
    }

    private static void sowing() throws IOException {
        terms("If there is no link from the page that is left to it, and fewer than 40 links, one is sown, "
            + "with the strength 1, not walked");
        Run x = Run.garden("page 0", "page 1", "reader 0").due("search 0 0", 1);
        x.due("linkOf 0 1 0", 1).due("linkOf 0 1 1", 0).due("linkOf 0 1 2", 0).due("linkOf 1 0 0", NOT_FOUND);
        x.due("count 1", 1).due("count 8", 1).due("count 4", 0);
        Run back = Run.garden("page 0", "page 1", "link 1 0 5", "reader 0", "search 0 0");
        back.due("linkOf 0 1 0", 1).due("linkOf 1 0 0", 5).due("count 8", 1);
        Run longer = Run.garden("page 0", "page 0", "page 1", "link 0 1 5", "link 1 2 5", "reader 0", "search 0 0");
        longer.due("linkOf 0 2 0", 1).due("linkOf 0 1 0", 5).due("linkOf 1 2 0", 5).due("count 4", 0);
        Run last = fullOfLinks(39).due("search 0 0", 11).due("count 1", 40).due("linkOf 4 11 0", 1);
        last.due("count 8", 1).refuses("link 11 0 5", LIMIT);
    }

    /** A garden with a reader at page 4, 12 pages of which the last has the word 0, and so many links. */
    private static Run fullOfLinks(int number) {
        Run x = Run.pages(11).does("page 1", "reader 4");
        int laid = 0;
        for (int place = 0; laid < number; place++) {
            if (place / 12 != place % 12) {
                x.does("link " + place / 12 + " " + place % 12 + " 7");
                laid++;
            }
        }
        return x;
    }

    private static void nothingSown() throws IOException {
        terms("otherwise no link is other");
        Run full = fullOfLinks(40).due("search 0 0", 11).due("readerOf 0 0", 11).due("trail 0 0", 4);
        full.due("count 1", 40).due("count 8", 0).due("linkOf 4 11 0", NOT_FOUND).due("readerOf 0 3", 1);
        Run room = fullOfLinks(40).does("cut 0 1", "search 0 0").due("count 1", 40).due("linkOf 4 11 0", 1);
        room.due("count 8", 1);
        Run there = Run.garden("page 0", "page 1", "link 0 1 7", "reader 0", "search 0 0");
        there.due("linkOf 0 1 0", 7).due("linkOf 0 1 1", 0).due("linkOf 0 1 2", 0).due("count 8", 0);
        Run walked = Run.garden("page 0", "page 1", "link 0 1 7", "reader 0", "walk 0 1", "back 0", "search 0 0");
        walked.due("linkOf 0 1 0", 12).due("linkOf 0 1 1", 1).due("linkOf 0 1 2", 1).due("count 8", 0);
        fullOfLinks(40).does("reader 0").due("search 1 0", 11).due("linkOf 0 11 0", 7).due("count 8", 0);
    }

    // ---- seasons

    private static void weakening() throws IOException {
        terms("each link that was not walked in it becomes weaker by setting 1");
        int[][] cases = {{3, 99, 96}, {3, 5, 2}, {0, 1, 1}, {0, 99, 99}, {1, 2, 1}, {50, 99, 49}};
        for (int[] one : cases) {
            Run x = Run.pages(12).does("set 1 " + one[0], "link 11 10 " + one[1], "link 0 1 " + one[1]);
            x.due("season", 0).due("linkOf 11 10 0", one[2]).due("linkOf 0 1 0", one[2]);
        }
        Run walked = Run.pages(2).does("set 1 50", "link 0 1 1", "link 1 0 99", "reader 0", "walk 0 1");
        walked.due("season", 0).due("linkOf 0 1 0", 6).due("linkOf 1 0 0", 49);
    }

    private static void withering() throws IOException {
        terms("those that would be below 1 wither: they are gone");
        int[][] cases = {{3, 1}, {3, 2}, {3, 3}, {1, 1}, {50, 1}, {50, 49}, {50, 50}};
        for (int[] one : cases) {
            Run x = Run.pages(2).does("set 1 " + one[0], "link 0 1 " + one[1]).due("withers 1", 1);
            x.due("season", 1).due("linkOf 0 1 0", NOT_FOUND).due("count 1", 0).due("count 9", 1).due("count 10", 0);
        }
        int[][] kept = {{3, 4}, {1, 2}, {50, 51}, {0, 1}};
        for (int[] one : kept) {
            Run x = Run.pages(2).does("set 1 " + one[0], "link 0 1 " + one[1]).due("withers 1", 0);
            x.due("season", 0).due("linkOf 0 1 0", 1).due("count 9", 0);
        }
    }

    /** A garden without weakening, with links from a page to others, of these strengths. */
    private static Run linksFrom(int from, int most, int... strengths) {
        Run x = Run.pages(12).does("set 1 0", "set 2 " + most);
        int to = 0;
        for (int strength : strengths) {
            to += to == from ? 1 : 0;
            x.does("link " + from + " " + to + " " + strength);
            to++;
        }
        return x;
    }

    private static void pruningByNumber() throws IOException {
        terms("the gardeners prune each page from which more than setting 2 links lead");
        linksFrom(0, 4, 9, 9, 9, 9).due("season", 0).due("count 10", 0).due("count 1", 4);
        linksFrom(0, 4, 9, 9, 9, 9, 9).due("season", 1).due("count 10", 1).due("count 1", 4).due("count 9", 0);
        linksFrom(11, 4, 9, 9, 9, 9, 9).due("season", 1).due("pageOf 11 1", 30);
        linksFrom(5, 1, 9).due("season", 0).due("count 1", 1);
        linksFrom(5, 1, 9, 8).due("season", 1).due("pageOf 5 1", 1);
        linksFrom(0, 11, 1, 1, 1, 1, 1, 1, 1, 1, 1, 1, 1).due("season", 0).due("count 1", 11);
        linksFrom(0, 10, 1, 1, 1, 1, 1, 1, 1, 1, 1, 1, 1).due("season", 1).due("count 1", 10);
        Run to = Run.pages(12).does("set 1 0", "set 2 1");
        for (int from = 0; from < 11; from++) {
            to.does("link " + from + " 11 5");
        }
        to.due("season", 0).due("count 1", 11);
        Run.links(40, 9).does("set 2 1").due("season", 36).due("count 10", 36).due("count 1", 4);
    }

    private static void pruningWeakest() throws IOException {
        terms("of those that were not walked in the season the weakest one goes");
        linksFrom(0, 2, 9, 8, 7).due("season", 1).due("pageOf 0 1", 6);
        linksFrom(0, 2, 7, 8, 9).due("season", 1).due("pageOf 0 1", 12);
        linksFrom(0, 2, 8, 7, 9).due("season", 1).due("pageOf 0 1", 2 | 8);
        Run walked = linksFrom(0, 2, 9, 8, 1).does("set 0 0", "reader 0", "walk 0 3");
        walked.due("season", 1).due("pageOf 0 1", 2 | 8).due("linkOf 0 3 0", 1);
    }

    private static void pruningLowest() throws IOException {
        terms("of several the one to the lowest page");
        linksFrom(0, 2, 5, 5, 5).due("season", 1).due("pageOf 0 1", 12);
        linksFrom(0, 2, 6, 5, 5).due("season", 1).due("pageOf 0 1", 2 | 8);
        linksFrom(11, 1, 5, 5, 5).due("season", 2).due("pageOf 11 1", 4);
        Run walked = linksFrom(0, 2, 5, 5, 5).does("set 0 0", "reader 0", "walk 0 1");
        walked.due("season", 1).due("pageOf 0 1", 2 | 8);
    }

    private static void pruningAgain() throws IOException {
        terms("again and again until no more than setting 2 are left");
        linksFrom(0, 1, 5, 1, 3, 1, 2).due("season", 4).due("count 10", 4).due("pageOf 0 1", 2);
        linksFrom(0, 2, 5, 1, 3, 1, 2).due("season", 3).due("pageOf 0 1", 2 | 8);
        linksFrom(0, 1, 1, 2, 3, 4, 5, 6, 7, 8, 9, 10, 11).due("season", 10).due("pageOf 0 1", 1 << 11);
    }

    private static void pruningWalked() throws IOException {
        terms("or all that are left were walked");
        Run x = linksFrom(0, 1, 5, 6, 99).does("reader 0", "walk 0 1", "back 0", "walk 0 2");
        x.due("withers 2", 1).due("season", 1).due("pageOf 0 1", 6).due("count 10", 1);
        x.due("season", 1).due("pageOf 0 1", 4).due("season", 0);
        Run all = linksFrom(0, 1, 5, 5, 5).does("reader 0", "walk 0 1", "back 0", "walk 0 2", "back 0", "walk 0 3");
        all.due("withers 0", 0).due("season", 0).due("count 1", 3).due("season", 2).due("pageOf 0 1", 8);
        Run none = linksFrom(0, 1, 5, 5).does("reader 0", "walk 0 2", "back 0");
        none.due("season", 1).due("pageOf 0 1", 4);
    }

    private static void orderOfSeason() throws IOException {
        terms("When a season ends, in this order: (1)");
        Run x = linksFrom(0, 4, 9, 9, 9, 9, 3).does("set 1 3").due("withers 1", 1).due("withers 2", 0);
        x.due("season", 1).due("count 9", 1).due("count 10", 0).due("pageOf 0 1", 30);
        Run both = linksFrom(0, 2, 9, 8, 7, 3, 2).does("set 1 3").due("withers 1", 2).due("withers 2", 1);
        both.due("season", 3).due("count 9", 2).due("count 10", 1).due("pageOf 0 1", 6);
        Run walked = linksFrom(0, 2, 7, 8, 9).does("set 1 5", "set 0 0", "reader 0", "walk 0 1");
        walked.due("season", 1).due("pageOf 0 1", 2 | 8).due("linkOf 0 1 0", 7).due("linkOf 0 3 0", 4);
    }

    private static void newSeason() throws IOException {
        terms("no link was walked in the new season");
        Run x = Run.pages(12).does("link 0 1 5", "link 11 10 5", "reader 0", "reader 11", "walk 0 1", "walk 1 10");
        x.due("count 4", 2).refuses("cut 0 1", NOT_POSSIBLE);
        x.due("season", 0).due("count 4", 0).due("linkOf 0 1 1", 0).due("linkOf 11 10 1", 0);
        x.due("linkOf 0 1 2", 1).due("season", 0).due("linkOf 0 1 0", 7).due("cut 0 1", 7);
    }

    // ---- ways

    private static void wayToItself() throws IOException {
        terms("(one from a page to itself has none)");
        Run x = Run.pages(12).does("link 0 1 5", "link 1 0 5");
        for (int page = 0; page < 12; page++) {
            String way = "way " + page + " " + page;
            x.due(way + " -1", 0).due(way + " 0", page).due(way + " 1", NOT_FOUND).due(way + " MAX", NOT_FOUND);
        }
    }

    private static void shortestWay() throws IOException {
        terms("it is shortest if it has the fewest links");
        Run x = Run.pages(12);
        for (int page = 0; page < 11; page++) {
            x.does("link " + page + " " + (page + 1) + " 1");
        }
        x.due("way 0 11 -1", 11).due("way 0 11 11", 11).due("way 0 11 12", NOT_FOUND).due("way 11 0 -1", NOT_FOUND);
        for (int index = 0; index < 12; index++) {
            x.due("way 0 11 " + index, index);
        }
        x.does("link 0 9 1").due("way 0 11 -1", 3).due("way 0 11 1", 9).due("way 0 11 2", 10);
        x.does("link 0 11 1").due("way 0 11 -1", 1).due("way 0 11 1", 11).due("way 0 11 2", NOT_FOUND);
        x.due("way 0 10 -1", 2).due("way 1 11 1", 2);
    }

    private static void lowestWay() throws IOException {
        terms("Of several shortest ways the one is told that goes to the lowest page first, "
            + "of these the one that goes to the lowest page then, and so on.");
        Run first = Run.pages(6).does("link 0 1 1", "link 1 4 1", "link 4 5 1", "link 0 2 1", "link 2 3 1", "link 3 5 1");
        first.due("way 0 5 1", 1).due("way 0 5 2", 4).due("way 0 5 3", 5);
        Run then = Run.pages(6).does("link 0 1 1", "link 1 4 1", "link 4 5 1", "link 1 3 1", "link 3 5 1");
        then.due("way 0 5 2", 3).due("way 0 5 3", 5);
        Run third = Run.pages(12).does("link 0 11 1", "link 11 10 1", "link 10 9 1", "link 10 8 1", "link 9 7 1");
        third.does("link 8 7 1").due("way 0 7 3", 8).due("way 0 7 4", 7).due("way 0 7 -1", 4);
        Run trap = Run.pages(6).does("link 0 1 1", "link 1 2 1", "link 2 5 1", "link 0 4 1", "link 4 5 1");
        trap.due("way 0 5 -1", 2).due("way 0 5 1", 4).due("way 0 5 2", 5);
        Run dead = Run.pages(6).does("link 0 1 1", "link 0 3 1", "link 3 5 1", "link 1 0 1").due("way 0 5 1", 3);
        dead.due("way 1 5 1", 0).due("way 1 5 2", 3).due("way 1 5 3", 5);
    }

    // ---- settings

    private static void settings() throws IOException {
        terms("The settings are (in parentheses: range; first value): 0 (0 to 50; 5), 1 (0 to 50; 3), 2 (1 to 11; 4).");
        Run.garden().due("count 20", 5).due("count 21", 3).due("count 22", 4);
        int[][] ranges = {{0, 0, 50, 5}, {1, 0, 50, 3}, {2, 1, 11, 4}};
        for (int[] range : ranges) {
            String set = "set " + range[0] + " ";
            Run x = Run.pages(2).refuses(set + (range[1] - 1), INVALID).refuses(set + (range[2] + 1), INVALID);
            x.due(set + range[1], range[3]).due(set + range[2], range[1]).due(set + range[1], range[2]);
            x.due("count 2" + range[0], range[1]);
        }
    }

    // ---- texts

    private static void lengthOfText() throws IOException {
        terms("There is a text of at most 60 characters, initially empty");
        Run x = Run.garden().due("count 12", 0).due("clearText", 0).due("play", 0).due("fault 0", NOT_FOUND);
        for (int length = 1; length <= 60; length++) {
            x.due("type " + (length % 2 == 1 ? 101 : 59), length).due("count 12", length);
        }
        x.refuses("type 101", LIMIT).due("play", 30).due("count 3", 30);
        x.due("clearText", 60).due("type 101", 1).due("count 12", 1);
    }

    private static void endOfOrder() throws IOException {
        terms("orders, each followed by \";\"");
        String[] orders = {"p1", "l0,2,5", "w0,1", "s0,1", "b0", "e"};
        for (String order : orders) {
            fault(order, 0, 1, order.length());
            fault(order + "e;", 0, 1, order.length());
            fault(order + ",", 0, 1, order.length());
            fault(order + ";;", order.length() + 1, 1, 0);
            possible(order + ";e;", 2);
        }
        fault(";", 0, 1, 0);
    }

    /** A garden in which each kind of order is possible. */
    private static Run forOrders() {
        return Run.garden("page 1", "page 2", "page 4", "link 0 1 20", "link 1 0 20", "reader 0", "walk 0 1", "walk 0 0");
    }

    private static void fault(String text, int position, int reason, int cause) {
        fault(forOrders(), text, position, reason, cause);
    }

    private static void fault(Run x, String text, int position, int reason, int cause) {
        x.types(text).due("fault 0", position).due("fault 1", reason).due("fault 2", cause);
        x.refuses("play", NOT_POSSIBLE).refuses("fault 3", INVALID).refuses("fault -1", INVALID);
    }

    private static void possible(String text, int orders) {
        possible(forOrders(), text, orders);
    }

    private static void possible(Run x, String text, int orders) {
        x.types(text).refuses("fault 0", NOT_FOUND).refuses("fault 1", NOT_FOUND).refuses("fault 2", NOT_FOUND);
        x.due("play", orders).due("count 12", text.length());
    }

    private static void orderOfPage() throws IOException {
        terms("\"p\" words (a page comes, 0 to 9999)");
        Run x = Run.garden().types("p0;p9999;p1;");
        x.due("play", 3).due("pageOf 0 0", 0).due("pageOf 1 0", 9999).due("pageOf 2 0", 1);
        fault("p10000;", 0, 1, 5);
        fault("p-1;", 0, 1, 1);
        fault(Run.pages(12), "p0;", 0, 2, LIMIT);
    }

    private static void orderOfLink() throws IOException {
        terms("\"l\" a page, \",\", a page, \",\", a strength (a link is laid)");
        Run.pages(12).types("l0,11,1;l11,0,99;").due("play", 2).due("linkOf 0 11 0", 1).due("linkOf 11 0 0", 99);
        fault("l0,2,0;", 0, 2, INVALID);
        fault("l0,2,100;", 0, 2, INVALID);
        fault("l0,2,9999;", 0, 2, INVALID);
        fault("l0,3,5;", 0, 2, INVALID);
        fault("l3,0,5;", 0, 2, INVALID);
        fault("l9999,0,5;", 0, 2, INVALID);
        fault("l2,2,5;", 0, 2, INVALID);
        fault(Run.links(40, 5), "l11,0,5;", 0, 2, LIMIT);
        possible(Run.links(40, 5), "l0,1,6;", 1);
        fault("l0,2;", 0, 1, 4);
        fault("l0,2,5,1;", 0, 1, 6);
    }

    private static void orderOfWalk() throws IOException {
        terms("\"w\" a reader, \",\", a page (walks there)");
        forOrders().types("w0,1;").due("play", 1).due("readerOf 0 0", 1).due("linkOf 0 1 0", 30).due("readerOf 0 2", 3);
        fault("w1,1;", 0, 2, INVALID);
        fault("w9999,1;", 0, 2, INVALID);
        fault("w0,3;", 0, 2, INVALID);
        fault("w0,9999;", 0, 2, INVALID);
        fault("w0,2;", 0, 2, NOT_POSSIBLE);
        fault("w0,0;", 0, 2, NOT_POSSIBLE);
        fault("w0;", 0, 1, 2);
        fault("w0,1,1;", 0, 1, 4);
    }

    private static void orderOfSearch() throws IOException {
        terms("\"s\" a reader, \",\", a word (searches)");
        forOrders().types("s0,2;").due("play", 1).due("readerOf 0 0", 2).due("readerOf 0 3", 1).due("linkOf 0 2 0", 1);
        fault("s1,2;", 0, 2, INVALID);
        fault("s0,16;", 0, 2, INVALID);
        fault("s0,9999;", 0, 2, INVALID);
        fault("s0,15;", 0, 2, NOT_POSSIBLE);
        fault("s0,0;", 0, 2, NOT_POSSIBLE);
        fault("s0;", 0, 1, 2);
        Run.garden("page 0", "page 32768", "reader 0").types("s0,15;").due("play", 1).due("readerOf 0 0", 1);
    }

    private static void ordersOfBackAndSeason() throws IOException {
        terms("\"b\" a reader (goes back) or \"e\" (a season ends)");
        forOrders().types("b0;b0;e;").due("play", 3).due("readerOf 0 0", 0).due("readerOf 0 1", 0).due("count 3", 1);
        fault("b1;", 0, 2, INVALID);
        fault("b9999;", 0, 2, INVALID);
        fault("b0;b0;b0;", 6, 2, NOT_POSSIBLE);
        fault("e0;", 0, 1, 1);
        fault("b;", 0, 1, 1);
        fault("b0,1;", 0, 1, 2);
        String others = "acdfghijkmnoqrtuvxyzPLWSBE019,. ~";
        for (int i = 0; i < others.length(); i++) {
            fault(others.charAt(i) + "0;", 0, 1, 0);
        }
    }

    private static void digits() throws IOException {
        terms("numbers of 1 to 4 digits, 0 ahead allowed");
        possible("p1;p01;p001;p0001;l0000,0001,0009;w0000,0001;b0000;", 7);
        Run.garden().types("p0012;").due("play", 1).due("pageOf 0 0", 12);
        fault("p00001;", 0, 1, 5);
        fault("p12345;", 0, 1, 5);
        fault("p;", 0, 1, 1);
        fault("l00000,1,5;", 0, 1, 5);
        fault("l0,00001,5;", 0, 1, 7);
        fault("l0,1,00005;", 0, 1, 9);
        fault("l,1,5;", 0, 1, 1);
        fault("l0,,5;", 0, 1, 3);
        fault("l0,1,;", 0, 1, 5);
        fault("w00000,1;", 0, 1, 5);
        fault("w0,00001;", 0, 1, 7);
        fault("s0,00001;", 0, 1, 7);
        fault("b00000;", 0, 1, 5);
        fault("p1/;", 0, 1, 2);
        fault("p1:;", 0, 1, 2);
        fault("p 1;", 0, 1, 1);
        fault("p+1;", 0, 1, 1);
    }

    private static void firstFault() throws IOException {
        terms("The fault of the text is the position, from 0, of the first character of the first order that is not possible");
        fault("x", 0, 1, 0);
        fault("e;x", 2, 1, 0);
        fault("e;p1;b9;x", 5, 2, INVALID);
        fault("e;p1;x;b9;", 5, 1, 0);
        fault("b9;b8;", 0, 2, INVALID);
        fault(Run.garden(), "e;".repeat(29) + "ex", 58, 1, 1);
        fault(Run.garden(), "e;".repeat(28) + "b0;x", 56, 2, INVALID);
        possible(Run.garden(), "", 0);
    }

    private static void reasons() throws IOException {
        terms("its reason is 1 if it is not of this form, its \";\" included, and otherwise 2, when those ahead of it are done");
        fault("b9", 0, 1, 2);
        fault("b9,", 0, 1, 2);
        fault("b9;", 0, 2, INVALID);
        fault("w0,2", 0, 1, 4);
        possible(Run.garden(), "p1;p2;l0,1,5;", 3);
        fault(Run.garden(), "l0,1,5;p1;p2;", 0, 2, INVALID);
        fault(Run.pages(2), "l0,1,5;w0,1;", 7, 2, INVALID);
        possible(Run.pages(2).does("reader 0"), "l0,1,5;w0,1;b0;", 3);
        fault(Run.pages(2).does("reader 0", "link 0 1 3"), "e;w0,1;", 2, 2, NOT_POSSIBLE);
        possible(Run.pages(2).does("reader 0", "link 0 1 4"), "e;w0,1;e;b0;w0,1;", 5);
        fault(Run.links(39, 5), "l11,0,5;l11,1,5;", 8, 2, LIMIT);
        fault(Run.pages(11), "p0;p0;", 3, 2, LIMIT);
    }

    private static void whereItBreaksOff() throws IOException {
        terms("its cause is with the reason 1 at which character of the order, from 0, it breaks off");
        String[] orders = {"p1;", "l0,2,5;", "w0,1;", "s0,1;", "b0;", "e;"};
        for (String order : orders) {
            for (int i = 0; i < order.length(); i++) {
                String broken = order.substring(0, i) + "x" + order.substring(i + 1);
                fault(broken, 0, 1, i);
                fault("e;" + broken, 2, 1, i);
            }
        }
        fault("l9999,9999,99999;", 0, 1, 15);
    }

    private static void endOfText() throws IOException {
        terms("(of one that the text ends too early it is its length)");
        String[] orders = {"p1;", "l0,2,5;", "w0,1;", "s0,1;", "b0;", "e;", "l9999,9999,9999;"};
        for (String order : orders) {
            for (int length = 1; length < order.length(); length++) {
                fault(order.substring(0, length), 0, 1, length);
                fault("e;" + order.substring(0, length), 2, 1, length);
            }
        }
        fault(Run.garden(), "e;".repeat(28) + "l0,1", 56, 1, 4);
    }

    private static void codeOfCall() throws IOException {
        terms("and with the reason 2 the error code that the call returns for it");
        fault("b1;", 0, 2, INVALID);
        fault("w0,2;", 0, 2, NOT_POSSIBLE);
        fault("s0,9;", 0, 2, NOT_POSSIBLE);
        fault("b0;b0;b0;", 6, 2, NOT_POSSIBLE);
        fault(Run.pages(12), "p1;", 0, 2, LIMIT);
        fault(Run.links(40, 5), "l11,0,5;", 0, 2, LIMIT);
        fault(Run.links(40, 5), "l11,0,0;", 0, 2, INVALID);
        fault(Run.links(40, 5), "l11,12,5;", 0, 2, INVALID);
    }

    // ---- changes and errors

    private static final String[] CHANGES = {"page 3", "link 2 0 9", "link 0 1 9", "cut 1 2", "reader 2", "walk 0 1",
        "back 0", "search 0 2", "season", "set 0 9", "set 1 9", "set 2 9", "play"};

    private static final String[] QUESTIONS = {"pageOf 0 0", "pageOf 0 6", "linkOf 0 1 0", "linkOf 2 0 0", "readerOf 0 0",
        "trail 0 0", "trail 0 9", "way 0 2 -1", "way 0 2 1", "way 2 0 0", "would 0 2", "would 0 9", "withers 0",
        "withers 1", "withers 2", "rescue 0", "rescue 1", "hub 0", "hub 1", "mean", "count 0", "count 5", "count 11",
        "fault 0", "fault 1", "fault 2"};

    /** A garden in which every change is possible, with so many states in the history. */
    private static Run forChanges(int states) {
        Run x = Run.garden("page 1", "page 2", "page 4", "link 0 1 20", "link 1 0 20", "link 1 2 3", "reader 0",
            "walk 0 1", "walk 0 0").types("p8;e;");
        for (int more = states; more < 4; more++) {
            x.does("season");
        }
        for (int more = states; more < 4; more++) {
            x.does("undo");
        }
        return x.due("count 11", states);
    }

    private static void whatIsChange() throws IOException {
        terms("The changes are the calls of page, link, cut, reader, walk, back, search, season, set and play "
            + "that return no error.");
        for (int states = 0; states <= 4; states++) {
            for (String change : CHANGES) {
                forChanges(states).records(change);
            }
            for (String question : QUESTIONS) {
                forChanges(states).leaves(question);
            }
            forChanges(states).recordsNothing("type 101").recordsNothing("clearText").recordsNothing("type 31");
        }
        forChanges(0).refuses("undo", NOT_POSSIBLE);
    }

    private static void whatIsNoChange() throws IOException {
        terms("The changes are the calls of page, link, cut, reader, walk, back, search, season, set and play "
            + "that return no error.");
        String[] refused = {"page -1", "link 0 0 5", "cut 0 1", "reader 3", "walk 0 2", "back 1", "search 0 9", "set 0 51",
            "type 31", "fault 3"};
        for (String change : CHANGES) {
            for (String question : QUESTIONS) {
                forChanges(4).forgets(question, change);
            }
            for (String call : refused) {
                forChanges(4).forgets(call, change);
            }
            for (String undone : CHANGES) {
                forChanges(4).does(undone, "undo", change).looksLike(forChanges(4).does(change));
            }
        }
    }

    private static void changeWithoutDifference() throws IOException {
        terms("The changes are the calls of page, link, cut, reader, walk, back, search, season, set and play "
            + "that return no error.");
        Run x = Run.pages(2).does("undo", "undo").due("set 0 5", 5).due("count 11", 1);
        x.due("set 2 4", 4).due("count 11", 2).due("play", 0).due("count 11", 3).due("undo", 2).due("undo", 1);
        x.due("undo", 0).due("undo", NOT_POSSIBLE);
        Run same = Run.pages(2).does("link 0 1 5").due("count 11", 3).due("link 0 1 5", 5).due("count 11", 4);
        same.due("undo", 3).due("linkOf 0 1 0", 5).due("undo", 2).due("linkOf 0 1 0", NOT_FOUND);
        Run.garden().due("season", 0).due("count 11", 1).due("undo", 0).due("count 3", 0);
    }

    private static void mostStates() throws IOException {
        terms("A history of at most 4 states is kept");
        Run x = Run.garden().due("count 11", 0).due("undo", NOT_POSSIBLE);
        for (int change = 1; change <= 9; change++) {
            x.does("season").due("count 11", Math.min(change, 4));
        }
        x.due("undo", 3).due("undo", 2).due("undo", 1).due("undo", 0).due("count 3", 5).refuses("undo", NOT_POSSIBLE);
    }

    private static void recordedBefore() throws IOException {
        terms("each change records everything before it but the text");
        for (String change : CHANGES) {
            forChanges(4).changes(change).records(change);
        }
        Run text = Run.garden().types("p1").does("season").types(";").does("undo");
        text.due("count 12", 3).due("count 3", 0).due("play", 1).due("pageOf 0 0", 1);
        text.does("clearText").due("undo", 0).due("count 12", 0).due("count 0", 0);
        Run fewer = Run.garden("page 1", "season").types("e;").does("undo").due("count 12", 2).due("play", 1);
        fewer.due("count 3", 1);
    }

    private static void oldestDropped() throws IOException {
        terms("if there are 5 states then, the oldest one is dropped");
        Run x = Run.garden("page 1", "page 2", "page 4", "page 8").due("count 11", 4);
        x.twin().does("undo", "undo", "undo", "undo").due("count 0", 0).due("undo", NOT_POSSIBLE);
        x.does("page 16").due("count 11", 4);
        x.due("undo", 3).due("count 0", 4).due("undo", 2).due("count 0", 3).due("undo", 1).due("count 0", 2);
        x.due("undo", 0).due("count 0", 1).due("pageOf 0 0", 1).due("undo", NOT_POSSIBLE);
        x.does("page 32", "page 64").due("count 11", 2).due("undo", 1).due("undo", 0).due("count 0", 1);
    }

    /** No more pages, links and readers have room in it. */
    private static Run crowded() {
        return Run.links(40, 5).does("reader 4", "reader 4", "reader 0", "reader 11");
    }

    private static Run fullText() {
        return Run.garden("page 1").types("e;".repeat(30));
    }

    private static void orderOfErrors() throws IOException {
        terms("If several errors apply to a call, INVALID_ARGUMENT is returned rather than NOT_POSSIBLE, "
            + "NOT_POSSIBLE rather than LIMIT_REACHED, and LIMIT_REACHED rather than NOT_FOUND.");
        Run crowded = crowded();
        String[] ratherThanLimit = {"page -1", "page 65536", "link 11 12 5", "link 12 11 5", "link -1 0 5", "link 11 0 0",
            "link 11 0 100", "link 11 11 5", "reader 12", "reader -1"};
        for (String call : ratherThanLimit) {
            crowded.refuses(call, INVALID);
        }
        crowded.refuses("page 0", LIMIT).refuses("link 11 0 5", LIMIT).refuses("reader 0", LIMIT);
        fullText().refuses("type 31", INVALID).refuses("type 127", INVALID).refuses("type 32", LIMIT);
        Run x = Run.pages(2).does("reader 0");
        String[] ratherThanNotPossible = {"cut 0 2", "cut 2 0", "cut -1 -1", "walk 1 1", "walk 0 2", "walk -1 -1", "back 1",
            "back -1", "search 1 0", "search 0 16", "search 0 -1"};
        for (String call : ratherThanNotPossible) {
            x.refuses(call, INVALID);
        }
        x.refuses("cut 0 1", NOT_POSSIBLE).refuses("walk 0 1", NOT_POSSIBLE).refuses("back 0", NOT_POSSIBLE);
        x.refuses("search 0 0", NOT_POSSIBLE);
        String[] ratherThanNotFound = {"linkOf 0 1 3", "linkOf 0 1 -1", "linkOf 0 2 0", "linkOf 2 0 0", "trail 0 -1",
            "trail 1 0", "trail 1 8", "way 0 1 -2", "way 0 2 -1", "way 2 0 9", "would 0 16", "would 0 -1", "would 1 0",
            "rescue 2", "rescue -1", "hub 2", "hub -1", "fault 3", "fault -1"};
        for (String call : ratherThanNotFound) {
            x.refuses(call, INVALID);
        }
        String[] notFound = {"linkOf 0 1 0", "trail 0 0", "way 0 1 -1", "would 0 0", "rescue 0", "hub 0", "mean", "fault 0"};
        for (String call : notFound) {
            x.refuses(call, NOT_FOUND);
        }
    }

    private static void refusedChangesNothing() throws IOException {
        terms("A call that returns an error changes nothing.");
        String[] invalid = {"page -1", "page 65536", "link 0 0 5", "link 0 3 5", "link 3 0 5", "link 0 1 0",
            "link 0 1 100", "link 2 1 100", "cut 0 3", "cut 3 0", "reader 3", "reader -1", "walk 1 1", "walk 0 3",
            "walk 0 -1", "back 1", "back -1", "search 1 0", "search 0 16", "search 0 -1", "set 0 51", "set 0 -1",
            "set 1 51", "set 2 0", "set 2 12", "set 3 1", "set -1 1", "pageOf 3 0", "pageOf 0 7", "linkOf 0 3 0",
            "linkOf 0 1 3", "readerOf 1 0", "readerOf 0 5", "trail 1 0", "trail 0 -1", "way 0 3 0", "way 0 1 -2",
            "would 1 0", "would 0 16", "withers 3", "withers -1", "rescue 2", "hub 2", "count 13", "count 23",
            "type 31", "type 127", "fault 3"};
        for (int states = 0; states <= 4; states++) {
            for (String call : invalid) {
                forChanges(states).refuses(call, INVALID);
            }
            Run x = forChanges(states);
            x.refuses("cut 0 2", NOT_POSSIBLE).refuses("cut 2 2", NOT_POSSIBLE).refuses("cut 0 1", NOT_POSSIBLE);
            x.refuses("walk 0 0", NOT_POSSIBLE).refuses("walk 0 2", NOT_POSSIBLE).refuses("search 0 9", NOT_POSSIBLE);
            x.types("x").refuses("play", NOT_POSSIBLE);
        }
        Run back = Run.pages(1).does("reader 0").refuses("back 0", NOT_POSSIBLE);
        back.types("b0;").refuses("play", NOT_POSSIBLE).types("x").refuses("play", NOT_POSSIBLE);
        Run.pages(1).types("e;p1;x").refuses("play", NOT_POSSIBLE).due("count 0", 1).due("count 3", 0);
        Run.garden().refuses("undo", NOT_POSSIBLE);
    }

    private static void refusedWhenFull() throws IOException {
        terms("A call that returns an error changes nothing.");
        Run x = crowded();
        x.refuses("page 1", LIMIT).refuses("link 11 0 5", LIMIT).refuses("reader 0", LIMIT);
        x.refuses("search 0 0", NOT_POSSIBLE).refuses("walk 0 0", NOT_POSSIBLE).refuses("back 0", NOT_POSSIBLE);
        fullText().refuses("type 101", LIMIT).due("play", 30);
    }

    private static void noSuchPageOrReader() throws IOException {
        terms("If there is no page or reader with a certain number, this is INVALID_ARGUMENT.");
        String[] calls = {"link # 0 5", "link 0 # 5", "cut # 0", "cut 0 #", "reader #", "walk 0 #", "pageOf # 0",
            "linkOf # 0 0", "linkOf 0 # 0", "way # 0 0", "way 0 # 0", "way # # -1"};
        String[] readerCalls = {"walk # 1", "back #", "search # 1", "readerOf # 0", "trail # 0", "would # 1"};
        String[] never = {"-1", "-2", "4", "12", "16", "MIN", "MAX"};
        Run x = Run.garden("page 1", "page 2", "page 4", "reader 0", "link 0 1 5", "link 0 2 5");
        for (String call : calls) {
            x.refuses(call.replace("#", "3"), INVALID);
            for (String number : never) {
                x.refuses(call.replace("#", number), INVALID);
            }
        }
        for (String call : readerCalls) {
            x.refuses(call.replace("#", "1"), INVALID);
            for (String number : never) {
                x.refuses(call.replace("#", number), INVALID);
            }
        }
        Run empty = Run.garden();
        Run undone = Run.garden("page 1", "page 2", "reader 0", "undo", "undo");
        for (String call : calls) {
            empty.refuses(call.replace("#", "0"), INVALID);
            undone.refuses(call.replace("#", "1"), INVALID);
        }
        for (String call : readerCalls) {
            empty.refuses(call.replace("#", "0"), INVALID);
            undone.refuses(call.replace("#", "0"), INVALID);
        }
    }

    private static void constants() throws IOException {
        terms("`INVALID_ARGUMENT = -1000001`");
        Run.garden().due("pageOf 0 0", -1000001);
        terms("`NOT_POSSIBLE = -1000002`");
        Run.garden().due("undo", -1000002);
        terms("`LIMIT_REACHED = -1000003`");
        Run.pages(12).due("page 0", -1000003);
        terms("`NOT_FOUND = -1000004`");
        Run.garden().due("mean", -1000004);
    }
}
