import java.util.Arrays;

/**
 * A garden of pages with links that grow where readers walk and wither where
 * nobody does. Every call answers with a number: what it tells, or one of the
 * four error codes, which are all below 0.
 */
public final class LinkGarden {
    public static final int INVALID_ARGUMENT = -1000001;
    public static final int NOT_POSSIBLE = -1000002;
    public static final int LIMIT_REACHED = -1000003;
    public static final int NOT_FOUND = -1000004;

    private static final int MAX_PAGES = 12;
    private static final int MAX_LINKS = 40;
    private static final int MAX_READERS = 4;
    private static final int MAX_TRAIL = 8;
    private static final int MAX_STATES = 4;
    private static final int MAX_TEXT = 60;
    private static final int MAX_STRENGTH = 99;
    private static final int WORDS = 16;
    private static final int PLACES = MAX_PAGES * MAX_PAGES;

    private static final int SETTINGS = 3;
    private static final int GROWTH = 0;
    private static final int DECAY = 1;
    private static final int MOST_LINKS = 2;
    private static final int[] FIRST_VALUE = {5, 3, 4};
    private static final int[] LEAST_VALUE = {0, 0, 1};
    private static final int[] GREATEST_VALUE = {50, 50, 11};

    private static final int FIRST_SIGN = 32;
    private static final int LAST_SIGN = 126;
    private static final int MAX_DIGITS = 4;
    private static final int MAX_NUMBERS = 3;
    private static final int NO_FAULT = 0;
    private static final int BAD_FORM = 1;
    private static final int REFUSED = 2;

    private static final int FLOAT_BIAS = 127;
    private static final int FLOAT_FRACTION_BITS = 23;
    private static final int FLOAT_ONE = 1 << FLOAT_FRACTION_BITS;

    private static final int NONE = -1;

    private final Garden garden;
    private final Garden trial;
    private final History history;
    private final Text text;

    public LinkGarden() {
        garden = new Garden();
        trial = new Garden();
        history = new History();
        text = new Text();
    }

    // ---- pages, links, readers

    public int page(int words) {
        trial.copyFrom(garden);
        return settle(trial.addPage(words));
    }

    public int link(int from, int to, int strength) {
        trial.copyFrom(garden);
        return settle(trial.layLink(from, to, strength));
    }

    public int cut(int from, int to) {
        trial.copyFrom(garden);
        return settle(trial.cutLink(from, to));
    }

    public int reader(int page) {
        trial.copyFrom(garden);
        return settle(trial.addReader(page));
    }

    // ---- reading

    public int walk(int reader, int to) {
        trial.copyFrom(garden);
        return settle(trial.walkAlong(reader, to));
    }

    public int back(int reader) {
        trial.copyFrom(garden);
        return settle(trial.goBack(reader));
    }

    public int search(int reader, int word) {
        trial.copyFrom(garden);
        return settle(trial.searchFor(reader, word));
    }

    public int season() {
        trial.copyFrom(garden);
        return settle(trial.endSeason());
    }

    public int set(int what, int value) {
        trial.copyFrom(garden);
        return settle(trial.changeSetting(what, value));
    }

    // ---- what there is

    public int pageOf(int page, int what) {
        if (!garden.hasPage(page)) {
            return INVALID_ARGUMENT;
        }
        switch (what) {
            case 0:
                return garden.words[page];
            case 1:
                return garden.links.targetsOf(page);
            case 2:
                return garden.links.sources(bit(page));
            case 3:
                return garden.links.strengthTo(page);
            case 4:
                return garden.readersAt(page);
            case 5:
                return garden.arrivals[page];
            case 6:
                return garden.links.reached(page);
            default:
                return INVALID_ARGUMENT;
        }
    }

    public int linkOf(int from, int to, int what) {
        if (!garden.hasPage(from) || !garden.hasPage(to) || what < 0 || what > 2) {
            return INVALID_ARGUMENT;
        }
        int place = place(from, to);
        if (garden.links.strength[place] == 0) {
            return NOT_FOUND;
        }
        switch (what) {
            case 0:
                return garden.links.strength[place];
            case 1:
                return garden.links.walked[place] ? 1 : 0;
            default:
                return garden.links.walks[place];
        }
    }

    public int readerOf(int reader, int what) {
        if (!garden.hasReader(reader)) {
            return INVALID_ARGUMENT;
        }
        Reader one = garden.readers[reader];
        switch (what) {
            case 0:
                return one.at;
            case 1:
                return one.trailLength;
            case 2:
                return one.walks;
            case 3:
                return one.searches;
            case 4:
                return one.trailSet();
            default:
                return INVALID_ARGUMENT;
        }
    }

    public int trail(int reader, int index) {
        if (!garden.hasReader(reader) || index < 0) {
            return INVALID_ARGUMENT;
        }
        Reader one = garden.readers[reader];
        return index < one.trailLength ? one.trailPages[index] : NOT_FOUND;
    }

    // ---- what would be

    public int way(int from, int to, int index) {
        if (!garden.hasPage(from) || !garden.hasPage(to) || index < -1) {
            return INVALID_ARGUMENT;
        }
        int length = garden.links.measure(from, to);
        if (length == NONE || index > length) {
            return NOT_FOUND;
        }
        return index == -1 ? length : garden.links.pageOnWay(from, length, index);
    }

    public int would(int reader, int word) {
        if (!garden.hasReader(reader) || !isWord(word)) {
            return INVALID_ARGUMENT;
        }
        int page = garden.pageToFind(garden.readers[reader].at, word);
        return page == NONE ? NOT_FOUND : page;
    }

    public int withers(int what) {
        if (what < 0 || what > 2) {
            return INVALID_ARGUMENT;
        }
        trial.copyFrom(garden);
        int gone = trial.endSeason();
        switch (what) {
            case 0:
                return gone;
            case 1:
                return trial.withered - garden.withered;
            default:
                return trial.pruned - garden.pruned;
        }
    }

    public int rescue(int what) {
        if (what < 0 || what > 1) {
            return INVALID_ARGUMENT;
        }
        trial.copyFrom(garden);
        trial.endSeason();
        int place = garden.links.strongestGone(trial.links);
        if (place == NONE) {
            return NOT_FOUND;
        }
        return what == 0 ? place / MAX_PAGES : place % MAX_PAGES;
    }

    public int hub(int what) {
        if (what < 0 || what > 1) {
            return INVALID_ARGUMENT;
        }
        if (garden.links.number == 0) {
            return NOT_FOUND;
        }
        int page = garden.links.mostStrengthTo();
        return what == 0 ? page : garden.links.strengthTo(page);
    }

    public int mean() {
        int number = garden.links.number;
        if (number == 0) {
            return NOT_FOUND;
        }
        return bitsOf((float) garden.links.strengthOfAll() / (float) number);
    }

    public int count(int what) {
        switch (what) {
            case 0:
                return garden.pages;
            case 1:
                return garden.links.number;
            case 2:
                return garden.readerNumber;
            case 3:
                return garden.seasons;
            case 4:
                return garden.links.walkedNumber();
            case 5:
                return garden.allPages() & ~garden.links.sources(garden.allPages());
            case 6:
                return garden.allPages() & ~garden.links.targets(garden.allPages());
            case 7:
                return garden.walksOfAll();
            case 8:
                return garden.sown;
            case 9:
                return garden.withered;
            case 10:
                return garden.pruned;
            case 11:
                return history.size;
            case 12:
                return text.length;
            case 20:
            case 21:
            case 22:
                return garden.settings[what - 20];
            default:
                return INVALID_ARGUMENT;
        }
    }

    public int undo() {
        if (history.size == 0) {
            return NOT_POSSIBLE;
        }
        history.restoreTo(garden);
        return history.size;
    }

    // ---- texts

    public int type(int character) {
        if (character < FIRST_SIGN || character > LAST_SIGN) {
            return INVALID_ARGUMENT;
        }
        if (text.length == MAX_TEXT) {
            return LIMIT_REACHED;
        }
        text.signs[text.length] = (char) character;
        text.length++;
        return text.length;
    }

    public int clearText() {
        int length = text.length;
        text.length = 0;
        return length;
    }

    public int fault(int what) {
        if (what < 0 || what > 2) {
            return INVALID_ARGUMENT;
        }
        trial.copyFrom(garden);
        text.perform(trial);
        if (text.reason == NO_FAULT) {
            return NOT_FOUND;
        }
        switch (what) {
            case 0:
                return text.position;
            case 1:
                return text.reason;
            default:
                return text.cause;
        }
    }

    public int play() {
        trial.copyFrom(garden);
        text.perform(trial);
        return settle(text.reason == NO_FAULT ? text.orders : NOT_POSSIBLE);
    }

    /** Makes the trial the garden, as one change, unless the answer is an error. */
    private int settle(int answer) {
        if (answer >= 0) {
            history.keep(garden);
            garden.copyFrom(trial);
        }
        return answer;
    }

    private static boolean isWord(int word) {
        return word >= 0 && word < WORDS;
    }

    private static int place(int from, int to) {
        return from * MAX_PAGES + to;
    }

    private static int bit(int number) {
        return 1 << number;
    }

    private static boolean has(int set, int number) {
        return (set >> number & 1) != 0;
    }

    /** The lowest page of a set that is not empty; always the number of a row's element. */
    private static int lowest(int set) {
        int page = 0;
        while (page < MAX_PAGES - 1 && !has(set, page)) {
            page++;
        }
        return page;
    }

    /**
     * The bits of a float that is at least 1. Float's own function is not in the
     * part of the library that the program keeps to; halving loses nothing here.
     */
    private static int bitsOf(float value) {
        float fraction = value;
        int exponent = FLOAT_BIAS;
        while (fraction >= 2 && exponent < 2 * FLOAT_BIAS) {
            fraction = fraction / 2;
            exponent++;
        }
        int behindOne = (int) (fraction * (float) FLOAT_ONE) - FLOAT_ONE;
        return (exponent << FLOAT_FRACTION_BITS) + behindOne;
    }

    /**
     * Everything that a state of the history keeps. The methods that change it
     * answer as the calls of the face do, and change nothing with an error.
     */
    private static final class Garden {
        int pages;
        int readerNumber;
        int seasons;
        int sown;
        int withered;
        int pruned;
        final int[] words;
        final int[] arrivals;
        final int[] settings;
        final Links links;
        final Reader[] readers;

        Garden() {
            words = new int[MAX_PAGES];
            arrivals = new int[MAX_PAGES];
            settings = Arrays.copyOf(FIRST_VALUE, SETTINGS);
            links = new Links();
            readers = new Reader[MAX_READERS];
            for (int i = 0; i < MAX_READERS; i++) {
                readers[i] = new Reader();
            }
        }

        void copyFrom(Garden other) {
            pages = other.pages;
            readerNumber = other.readerNumber;
            seasons = other.seasons;
            sown = other.sown;
            withered = other.withered;
            pruned = other.pruned;
            System.arraycopy(other.words, 0, words, 0, MAX_PAGES);
            System.arraycopy(other.arrivals, 0, arrivals, 0, MAX_PAGES);
            System.arraycopy(other.settings, 0, settings, 0, SETTINGS);
            links.copyFrom(other.links);
            for (int i = 0; i < MAX_READERS; i++) {
                readers[i].copyFrom(other.readers[i]);
            }
        }

        boolean hasPage(int page) {
            return page >= 0 && page < pages;
        }

        boolean hasReader(int reader) {
            return reader >= 0 && reader < readerNumber;
        }

        int allPages() {
            return bit(pages) - 1;
        }

        int pagesWith(int word) {
            int set = 0;
            for (int page = 0; page < pages; page++) {
                if (has(words[page], word)) {
                    set |= bit(page);
                }
            }
            return set;
        }

        int readersAt(int page) {
            int number = 0;
            for (int i = 0; i < readerNumber; i++) {
                if (readers[i].at == page) {
                    number++;
                }
            }
            return number;
        }

        int walksOfAll() {
            int walks = 0;
            for (int i = 0; i < readerNumber; i++) {
                walks += readers[i].walks;
            }
            return walks;
        }

        int addPage(int wordSet) {
            if (wordSet < 0 || wordSet >= bit(WORDS)) {
                return INVALID_ARGUMENT;
            }
            if (pages == MAX_PAGES) {
                return LIMIT_REACHED;
            }
            words[pages] = wordSet;
            pages++;
            return pages - 1;
        }

        int layLink(int from, int to, int strength) {
            if (!hasPage(from) || !hasPage(to) || from == to) {
                return INVALID_ARGUMENT;
            }
            if (strength < 1 || strength > MAX_STRENGTH) {
                return INVALID_ARGUMENT;
            }
            int place = place(from, to);
            int old = links.strength[place];
            if (old > 0) {
                links.strength[place] = strength;
                return old;
            }
            if (links.number == MAX_LINKS) {
                return LIMIT_REACHED;
            }
            links.add(place, strength);
            return 0;
        }

        int cutLink(int from, int to) {
            if (!hasPage(from) || !hasPage(to)) {
                return INVALID_ARGUMENT;
            }
            int place = place(from, to);
            int old = links.strength[place];
            if (old == 0 || links.walked[place]) {
                return NOT_POSSIBLE;
            }
            links.remove(place);
            return old;
        }

        int addReader(int page) {
            if (!hasPage(page)) {
                return INVALID_ARGUMENT;
            }
            if (readerNumber == MAX_READERS) {
                return LIMIT_REACHED;
            }
            readers[readerNumber].at = page;
            readerNumber++;
            return readerNumber - 1;
        }

        int walkAlong(int reader, int to) {
            if (!hasReader(reader) || !hasPage(to)) {
                return INVALID_ARGUMENT;
            }
            Reader one = readers[reader];
            int place = place(one.at, to);
            if (links.strength[place] == 0) {
                return NOT_POSSIBLE;
            }
            links.walkAt(place, settings[GROWTH]);
            one.goOnTo(to);
            one.walks++;
            arrivals[to]++;
            return links.strength[place];
        }

        int goBack(int reader) {
            if (!hasReader(reader)) {
                return INVALID_ARGUMENT;
            }
            Reader one = readers[reader];
            if (one.trailLength == 0) {
                return NOT_POSSIBLE;
            }
            one.returnToLatest();
            arrivals[one.at]++;
            return one.at;
        }

        int searchFor(int reader, int word) {
            if (!hasReader(reader) || !isWord(word)) {
                return INVALID_ARGUMENT;
            }
            Reader one = readers[reader];
            int to = pageToFind(one.at, word);
            if (to == NONE) {
                return NOT_POSSIBLE;
            }
            sow(place(one.at, to));
            one.goOnTo(to);
            one.searches++;
            arrivals[to]++;
            return to;
        }

        void sow(int place) {
            if (links.strength[place] == 0 && links.number < MAX_LINKS) {
                links.add(place, 1);
                sown++;
            }
        }

        /** Where a search for a word leads from a page; NONE if no other page has it. */
        int pageToFind(int from, int word) {
            int wanted = pagesWith(word) & ~bit(from);
            if (wanted == 0) {
                return NONE;
            }
            int seen = bit(from);
            for (int step = 1; step < MAX_PAGES && (seen & wanted) == 0; step++) {
                seen |= links.targets(seen);
            }
            int nearest = seen & wanted;
            return lowest(nearest == 0 ? wanted : nearest);
        }

        int endSeason() {
            int before = links.number;
            withered += links.weaken(settings[DECAY]);
            for (int page = 0; page < pages; page++) {
                pruned += links.prune(page, settings[MOST_LINKS]);
            }
            links.forgetSeason();
            seasons++;
            return before - links.number;
        }

        int changeSetting(int what, int value) {
            if (what < 0 || what >= SETTINGS) {
                return INVALID_ARGUMENT;
            }
            if (value < LEAST_VALUE[what] || value > GREATEST_VALUE[what]) {
                return INVALID_ARGUMENT;
            }
            int old = settings[what];
            settings[what] = value;
            return old;
        }
    }

    /** The links, each at the place of its two pages; the strength 0 is no link. */
    private static final class Links {
        int number;
        final int[] strength;
        final int[] walks;
        final boolean[] walked;
        /** Work of measure alone: the pages from which so many links lead to its goal. */
        private final int[] levels;

        Links() {
            strength = new int[PLACES];
            walks = new int[PLACES];
            walked = new boolean[PLACES];
            levels = new int[MAX_PAGES];
        }

        void copyFrom(Links other) {
            number = other.number;
            System.arraycopy(other.strength, 0, strength, 0, PLACES);
            System.arraycopy(other.walks, 0, walks, 0, PLACES);
            System.arraycopy(other.walked, 0, walked, 0, PLACES);
        }

        void add(int place, int firstStrength) {
            strength[place] = firstStrength;
            walks[place] = 0;
            walked[place] = false;
            number++;
        }

        void remove(int place) {
            strength[place] = 0;
            number--;
        }

        void walkAt(int place, int growth) {
            strength[place] = Math.min(strength[place] + growth, MAX_STRENGTH);
            walks[place]++;
            walked[place] = true;
        }

        int targets(int pages) {
            int set = 0;
            for (int from = 0; from < MAX_PAGES; from++) {
                if (has(pages, from)) {
                    set |= targetsOf(from);
                }
            }
            return set;
        }

        /** Written out, as it ends the deepest chain of calls, which rule 11 keeps short. */
        int targetsOf(int from) {
            int set = 0;
            for (int to = 0; to < MAX_PAGES; to++) {
                if (strength[from * MAX_PAGES + to] > 0) {
                    set |= 1 << to;
                }
            }
            return set;
        }

        int sources(int pages) {
            int set = 0;
            for (int from = 0; from < MAX_PAGES; from++) {
                if ((targetsOf(from) & pages) != 0) {
                    set |= bit(from);
                }
            }
            return set;
        }

        int strengthTo(int page) {
            int sum = 0;
            for (int from = 0; from < MAX_PAGES; from++) {
                sum += strength[place(from, page)];
            }
            return sum;
        }

        int strengthOfAll() {
            int sum = 0;
            for (int place = 0; place < PLACES; place++) {
                sum += strength[place];
            }
            return sum;
        }

        int mostStrengthTo() {
            int best = 0;
            for (int page = 1; page < MAX_PAGES; page++) {
                if (strengthTo(page) > strengthTo(best)) {
                    best = page;
                }
            }
            return best;
        }

        int walkedNumber() {
            int sum = 0;
            for (int place = 0; place < PLACES; place++) {
                if (walked[place]) {
                    sum++;
                }
            }
            return sum;
        }

        int reached(int from) {
            int seen = bit(from);
            for (int step = 1; step < MAX_PAGES; step++) {
                seen |= targets(seen);
            }
            return seen;
        }

        /**
         * How many links the shortest way has, NONE if there is no way. It goes
         * back from the goal, so that pageOnWay can choose from the start on.
         */
        int measure(int from, int to) {
            int level = bit(to);
            int seen = level;
            for (int length = 0; length < MAX_PAGES; length++) {
                levels[length] = level;
                if (has(level, from)) {
                    return length;
                }
                level = sources(level) & ~seen;
                seen |= level;
            }
            return NONE;
        }

        /** A page of the way of that length, which measure has found just before. */
        int pageOnWay(int from, int length, int index) {
            int page = from;
            for (int left = length - 1; left >= length - index && left >= 0; left--) {
                page = lowest(targetsOf(page) & levels[left]);
            }
            return page;
        }

        /** Weakens the links that were not walked; tells how many withered. */
        int weaken(int decay) {
            int gone = 0;
            for (int place = 0; place < PLACES; place++) {
                if (strength[place] == 0 || walked[place]) {
                    continue;
                }
                if (strength[place] > decay) {
                    strength[place] -= decay;
                } else {
                    remove(place);
                    gone++;
                }
            }
            return gone;
        }

        /** Prunes a page to so many links, if walked ones do not hinder it; tells how many went. */
        int prune(int page, int most) {
            int over = Integer.bitCount(targetsOf(page)) - most;
            for (int gone = 0; gone < over; gone++) {
                int weakest = weakestNotWalked(page);
                if (weakest == NONE) {
                    return gone;
                }
                remove(weakest);
            }
            return Math.max(over, 0);
        }

        int weakestNotWalked(int from) {
            int weakest = NONE;
            for (int to = 0; to < MAX_PAGES; to++) {
                int place = place(from, to);
                if (strength[place] == 0 || walked[place]) {
                    continue;
                }
                if (weakest == NONE || strength[place] < strength[weakest]) {
                    weakest = place;
                }
            }
            return weakest;
        }

        void forgetSeason() {
            for (int place = 0; place < PLACES; place++) {
                walked[place] = false;
            }
        }

        /** The place of the strongest link that is no longer there later on, or NONE. */
        int strongestGone(Links later) {
            int best = NONE;
            for (int place = 0; place < PLACES; place++) {
                if (strength[place] == 0 || later.strength[place] > 0) {
                    continue;
                }
                if (best == NONE || strength[place] > strength[best]) {
                    best = place;
                }
            }
            return best;
        }
    }

    /** A reader at a page, with the trail, the latest page first. */
    private static final class Reader {
        int at;
        int walks;
        int searches;
        int trailLength;
        final int[] trailPages;

        Reader() {
            trailPages = new int[MAX_TRAIL];
        }

        void copyFrom(Reader other) {
            at = other.at;
            walks = other.walks;
            searches = other.searches;
            trailLength = other.trailLength;
            System.arraycopy(other.trailPages, 0, trailPages, 0, MAX_TRAIL);
        }

        void goOnTo(int page) {
            System.arraycopy(trailPages, 0, trailPages, 1, MAX_TRAIL - 1);
            trailPages[0] = at;
            trailLength = Math.min(trailLength + 1, MAX_TRAIL);
            at = page;
        }

        void returnToLatest() {
            at = trailPages[0];
            System.arraycopy(trailPages, 1, trailPages, 0, MAX_TRAIL - 1);
            trailLength--;
        }

        int trailSet() {
            int set = 0;
            for (int i = 0; i < trailLength; i++) {
                set |= bit(trailPages[i]);
            }
            return set;
        }
    }

    /** The states that undo restores, the oldest one first, in gardens that are used again. */
    private static final class History {
        int size;
        private final Garden[] states;

        History() {
            states = new Garden[MAX_STATES];
            for (int i = 0; i < MAX_STATES; i++) {
                states[i] = new Garden();
            }
        }

        void keep(Garden garden) {
            if (size == MAX_STATES) {
                dropOldest();
            }
            states[size].copyFrom(garden);
            size++;
        }

        void dropOldest() {
            Garden oldest = states[0];
            for (int i = 1; i < MAX_STATES; i++) {
                states[i - 1] = states[i];
            }
            states[MAX_STATES - 1] = oldest;
            size--;
        }

        void restoreTo(Garden garden) {
            size--;
            garden.copyFrom(states[size]);
        }
    }

    /** The text of orders, and what performing it found: how many were done, and the fault. */
    private static final class Text {
        int length;
        final char[] signs;
        int orders;
        int position;
        int reason;
        int cause;
        private int at;
        private final int[] numbers;

        Text() {
            signs = new char[MAX_TEXT];
            numbers = new int[MAX_NUMBERS];
        }

        /** Does the orders in a garden, up to the first one that is not possible. */
        void perform(Garden garden) {
            at = 0;
            orders = 0;
            reason = NO_FAULT;
            for (int turn = 0; turn < MAX_TEXT && at < length; turn++) {
                position = at;
                if (!readOrder()) {
                    reason = BAD_FORM;
                    cause = at - position;
                    return;
                }
                int answer = give(garden, signs[position]);
                if (answer < 0) {
                    reason = REFUSED;
                    cause = answer;
                    return;
                }
                orders++;
            }
        }

        int give(Garden garden, char kind) {
            switch (kind) {
                case 'p':
                    return garden.addPage(numbers[0]);
                case 'l':
                    return garden.layLink(numbers[0], numbers[1], numbers[2]);
                case 'w':
                    return garden.walkAlong(numbers[0], numbers[1]);
                case 's':
                    return garden.searchFor(numbers[0], numbers[1]);
                case 'b':
                    return garden.goBack(numbers[0]);
                default:
                    return garden.endSeason();
            }
        }

        /** Goes behind the order, or, if it is not of the form, to where it breaks off. */
        boolean readOrder() {
            int wanted = numbersOf(signHere());
            if (wanted == NONE) {
                return false;
            }
            at++;
            for (int i = 0; i < wanted; i++) {
                if (i > 0 && !readSign(',')) {
                    return false;
                }
                if (!readNumber(i)) {
                    return false;
                }
            }
            return readSign(';');
        }

        /** How many numbers an order has; NONE if none begins with that sign. */
        static int numbersOf(char kind) {
            switch (kind) {
                case 'e':
                    return 0;
                case 'p':
                case 'b':
                    return 1;
                case 'w':
                case 's':
                    return 2;
                case 'l':
                    return MAX_NUMBERS;
                default:
                    return NONE;
            }
        }

        boolean readSign(char sign) {
            if (signHere() != sign) {
                return false;
            }
            at++;
            return true;
        }

        boolean readNumber(int index) {
            int value = 0;
            int digits = 0;
            while (digits < MAX_DIGITS && signHere() >= '0' && signHere() <= '9') {
                value = value * 10 + (signHere() - '0');
                digits++;
                at++;
            }
            numbers[index] = value;
            return digits > 0;
        }

        /** The sign that is read next; behind the end one that no text has. */
        char signHere() {
            return at < length ? signs[at] : (char) 0;
        }
    }
}
