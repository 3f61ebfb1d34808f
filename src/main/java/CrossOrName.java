/**
 * Books of parishes in which each pair signed or put a cross, and what they tell of who could write.
 * A mark is known inside by one number: twice its marriage's number, and its side more.
 */
public final class CrossOrName {
    public static final int BAD = -1, STATE = -2, FULL = -3, NONE = -4;

    private static final int MOST_PARISHES = 12;
    private static final int MOST_CLERKS = 8;
    private static final int MOST_MARRIAGES = 40;
    private static final int MOST_MARKS = 80;
    private static final int MOST_CELLS = 60;
    private static final int MOST_READ = 12;
    private static final int TAPE_BYTES = 320;

    private static final int LAST_YEAR = 89;
    private static final int LAST_TRADE = 7;
    private static final int LAST_HAND = 255;
    private static final int LAST_PERSON = 99;
    private static final int LEAST_AGE = 16;
    private static final int GREATEST_AGE = 60;
    private static final int BOTH_SIDES = 3;
    private static final int ALL_TRADES = 255;

    /** What a marriage has, as of() tells it. */
    private static final int PARISH = 0, YEAR = 1, TRADE = 2;
    /** What a side has, as set() and has() tell it. */
    private static final int MARK = 0, AGE = 1, HAND = 2, PERSON = 3, BORN = 4;
    private static final int CROSS = 0, NAME = 1;

    private static final int CROSSED = 1, SPARED = 2, NAMED = 3, DRAWN = 4, WRITTEN = 5;

    /** What a group is made by. */
    private static final int BY_PARISHES = 0, BY_TRADES = 1, BY_SIDES = 2, BY_BORN = 3;
    /** Room for the finest groups there are: the tens of years from -60 to 80. */
    private static final int MOST_GROUPS = 15;

    private static final int FIRST_LEARNT = -60;
    private static final int NOT_IN = 0, PERHAPS_IN = 1, SURELY_IN = 2;

    private static final int NULL_FAULT = 1, INDEX_FAULT = 2, CAST_FAULT = 3, SIZE_FAULT = 4;
    private static final int CELLS_OF_MARRIAGE = 5;

    private static final int TENS_BAD = -1000, TENS_NONE = -1004;
    private static final int WORTH_BAD = -1000000, WORTH_NONE = -1000004;

    private final Tape tape = new Tape();
    private final LandReader reader = new LandReader();
    private Land ours = new Land();
    private Land draft = new Land();
    private int latestFault = 0;

    private final Books books = new Books();
    private final Kinds kinds = new Kinds();
    private final Choice[] choices = {new Choice(), new Choice()};
    private final Image[] images = {new Image(), new Image()};
    private final Sheet[] sheets = {new Sheet(), new Sheet(), new Sheet(), new Sheet()};
    private int latestTorn = 0;

    private final Tally before = new Tally();
    private final Tally after = new Tally();
    private final Ratio ratio = new Ratio();
    private final int[] handsFound = new int[MOST_MARKS];
    private final int[][] standing = new int[2][LAST_PERSON + 1];

    public CrossOrName() {
    }

    // ---- the land

    public int feed(long v) {
        return tape.append(v) ? tape.length : FULL;
    }

    public int end(int n) {
        if (!within(n, 0, tape.length)) {
            return BAD;
        }
        int had = tape.length;
        tape.length = n;
        return had;
    }

    public int land() {
        int lines = reader.readLines(tape, draft);
        tape.length = 0;
        latestFault = reader.fault;
        if (latestFault != 0) {
            return -10 - reader.faultPlace;
        }
        takeDraft();
        return lines;
    }

    public int fault() {
        return latestFault;
    }

    public int told(int what) {
        switch (what) {
            case 0: return ours.parishes;
            case 1: return ours.clerks;
            case 2: return ours.learn;
            case 3: return ours.leastAge;
            case 4: return ours.greatestAge;
            case 5: return ours.never;
            case 6: return ours.picture;
            case 7: case 8: case 9: case 10: return ours.tried[what - 7];
            default: return BAD;
        }
    }

    public int parish(int p, int what) {
        if (!isParish(p) || !within(what, 0, 4)) {
            return BAD;
        }
        return what == 4 ? books.marriagesIn(p) : ours.parish[what][p];
    }

    public int clerk(int k, int what) {
        if (!within(k, 0, ours.clerks - 1) || !within(what, 0, 5)) {
            return BAD;
        }
        if (what < 5) {
            return ours.clerk[what][k];
        }
        kinds.renew(books, ours);
        return kinds.writtenBy(k, books.marks());
    }

    // ---- the books

    public int marry(int parish, int year, int trade, int groom, int bride) {
        if (!isMarriage(parish, year, trade, groom, bride)) {
            return BAD;
        }
        if (books.size >= MOST_MARRIAGES) {
            return FULL;
        }
        kinds.stale = true;
        return books.append(parish, year, trade, groom, bride);
    }

    public int set(int m, int side, int what, int v) {
        if (!isMark(m, side) || !mayBe(what, v)) {
            return BAD;
        }
        int mark = 2 * m + side;
        if (what == HAND && books.side[MARK][mark] == CROSS) {
            return STATE;
        }
        int was = books.side[what][mark];
        books.side[what][mark] = v;
        if (what == MARK && v == CROSS) {
            books.side[HAND][mark] = 0;
        }
        kinds.stale = true;
        return was;
    }

    public int of(int m, int what) {
        if (!isInBooks(m) || !within(what, PARISH, TRADE)) {
            return BAD;
        }
        return books.pair[what][m];
    }

    public int has(int m, int side, int what) {
        if (!isMark(m, side) || !within(what, MARK, BORN)) {
            return BAD;
        }
        return books.side[what][2 * m + side];
    }

    public int kind(int m, int side) {
        if (!isMark(m, side)) {
            return BAD;
        }
        kinds.renew(books, ours);
        return kinds.kind[2 * m + side];
    }

    public int writer(int m, int side) {
        if (!isMark(m, side)) {
            return BAD;
        }
        kinds.renew(books, ours);
        return kinds.writer[2 * m + side];
    }

    public int apart(int a, int b) {
        if (!within(a, 0, LAST_HAND) || !within(b, 0, LAST_HAND)) {
            return BAD;
        }
        return bitsApart(a, b);
    }

    public int tear(int m) {
        if (!isInBooks(m)) {
            return BAD;
        }
        books.drop(m);
        kinds.stale = true;
        return books.size;
    }

    // ---- choices

    public int choose(int c, int parishes, int from, int to, int sides, int trades) {
        if (!isChoice(c) || !areParishes(parishes) || !within(from, 0, LAST_YEAR) || !within(to, from, LAST_YEAR)
                || !within(sides, 0, BOTH_SIDES) || !within(trades, 0, ALL_TRADES)) {
            return BAD;
        }
        choices[c].become(parishes, from, to, sides, trades);
        return howMany(c, 0);
    }

    public int many(int c, int what) {
        if (!isChoice(c) || !(within(what, 0, 2) || within(what, 10 + CROSSED, 10 + WRITTEN))) {
            return BAD;
        }
        return howMany(c, what);
    }

    public int share(int c, int what) {
        if (!isChoice(c) || !within(what, 0, 1)) {
            return BAD;
        }
        return fractionOrNone(howMany(c, 1), howMany(c, 0), what);
    }

    public int best(int c, int groups, int n, int what) {
        if (!isChoice(c) || !within(groups, BY_PARISHES, BY_BORN) || !within(n, 1, 99) || !within(what, 0, 2)) {
            return BAD;
        }
        tallyGroups(after, c, groups);
        int best = after.greatestShare(n);
        if (best < 0) {
            return NONE;
        }
        if (what == 0) {
            return best;
        }
        return what == 1 ? after.marks[best] : after.able[best];
    }

    public int pairs(int c, int what) {
        if (!isChoice(c) || !within(what, 0, 3)) {
            return BAD;
        }
        return howManyPairs(c, what / 2, what % 2);
    }

    public int spared(int c, int what) {
        if (!isChoice(c) || !within(what, 0, 1)) {
            return BAD;
        }
        int crosses = howManyPairs(c, CROSS, CROSS);
        int besideCross = crosses + howManyPairs(c, CROSS, NAME);
        int crossesByName = howManyPairs(c, NAME, CROSS);
        int besideName = crossesByName + howManyPairs(c, NAME, NAME);
        int beyond = crosses * besideName - besideCross * crossesByName;
        return fractionOrNone(Math.max(beyond, 0), besideName, what);
    }

    // ---- back, by ages

    public int learnt(int c, int a, int b, int what) {
        if (!isChoice(c) || !areLearntYears(a, b) || !within(what, 0, 3)) {
            return BAD;
        }
        return howManyLearnt(c, a, b, what);
    }

    public int bounds(int c, int a, int b, int what) {
        if (!isChoice(c) || !areLearntYears(a, b) || !within(what, 0, 3)) {
            return BAD;
        }
        int surely = howManyLearnt(c, a, b, 0);
        int ableSurely = howManyLearnt(c, a, b, 2);
        int ablePerhaps = howManyLearnt(c, a, b, 3);
        if (what >= 2) {
            return fractionOrNone(ableSurely + ablePerhaps, surely + ablePerhaps, what);
        }
        int unablePerhaps = howManyLearnt(c, a, b, 1) - ablePerhaps;
        return fractionOrNone(ableSurely, surely + unablePerhaps, what);
    }

    public int tens(int c, int what) {
        if (!isChoice(c) || !within(what, 0, 1)) {
            return TENS_BAD;
        }
        tallyTens(c);
        int most = after.mostMarks();
        if (after.marks[most] == 0) {
            return TENS_NONE;
        }
        return what == 0 ? FIRST_LEARNT + 10 * most : after.marks[most];
    }

    // ---- the land by drawn parishes

    public long span(int parishes, int what) {
        if (!areParishes(parishes) || !within(what, 0, 3)) {
            return BAD;
        }
        tallyGroups(after, 0, BY_PARISHES);
        if (!allHaveMarks(parishes)) {
            return BAD;
        }
        int all = ours.marriagesOf(ours.allParishes());
        if (all == 0) {
            return NONE;
        }
        ratio.become(0, 1);
        for (int p = 0; p < ours.parishes; p++) {
            if (hasBit(parishes, p)) {
                ratio.add((long) after.able[p] * ours.parish[0][p], after.marks[p]);
            }
        }
        if (what >= 2) {
            ratio.add(ours.marriagesOf(ours.allParishes() & ~parishes), 1);
        }
        ratio.become(ratio.top, ratio.bottom * all);
        return ratio.part(what);
    }

    public int next(int parishes) {
        if (!areParishes(parishes)) {
            return BAD;
        }
        tallyGroups(after, 0, BY_PARISHES);
        if (!allHaveMarks(parishes)) {
            return BAD;
        }
        int best = largestBelow(ours.parishes, parishes);
        return best < 0 ? NONE : best;
    }

    public int enough(int a, int b, int what) {
        if (!within(b, 1, 999) || !within(a, 0, b) || !within(what, 0, 1)) {
            return BAD;
        }
        int all = ours.marriagesOf(ours.allParishes());
        if (all == 0) {
            return NONE;
        }
        tallyGroups(after, 0, BY_PARISHES);
        int needed = leastDrawn(all, a, b);
        int fewest = fewestBelow(ours.parishes, needed);
        if (fewest < 0) {
            return NONE;
        }
        return what == 0 ? fewest : leastBits(fewest, needed);
    }

    public long reading(int c, int what) {
        if (!isChoice(c) || !within(what, 0, 1)) {
            return BAD;
        }
        int marks = howMany(c, 0);
        if (marks == 0) {
            return NONE;
        }
        int crosses = howMany(c, 2);
        ratio.become(0, 1);
        ratio.add((long) crosses * ours.tried[0], (long) marks * ours.tried[1]);
        ratio.add((long) (marks - crosses) * ours.tried[2], (long) marks * ours.tried[3]);
        return ratio.part(what);
    }

    public int unwed(int c, int what) {
        if (!isChoice(c) || !within(what, 0, 3)) {
            return BAD;
        }
        int able = howMany(c, 1);
        int top = what < 2 ? able : able + ours.never;
        return fractionOrNone(top, howMany(c, 0) + ours.never, what);
    }

    // ---- changes

    public long parts(int groups, int what) {
        if (!within(groups, BY_PARISHES, BY_BORN) || !within(what, 0, 5)) {
            return BAD;
        }
        tallyGroups(before, 0, groups);
        tallyGroups(after, 1, groups);
        if (before.allMarks == 0 || after.allMarks == 0) {
            return NONE;
        }
        ratio.become(0, 1);
        for (int g = 0; g < MOST_GROUPS; g++) {
            if (what < 2 || what >= 4) {
                addMore(g);
            }
            if (what >= 2) {
                addBetter(g);
            }
        }
        return ratio.part(what);
    }

    public int worth(int kind, int year, int what) {
        if (!within(kind, 0, 1) || !within(year, 0, LAST_YEAR) || !within(what, 0, 1)) {
            return WORTH_BAD;
        }
        tallyQuarters(kind, year);
        for (int q = 0; q < 4; q++) {
            if (after.marks[q] == 0) {
                return WORTH_NONE;
            }
        }
        ratio.become(after.able[3], after.marks[3]);
        ratio.add(-after.able[2], after.marks[2]);
        ratio.add(-after.able[1], after.marks[1]);
        ratio.add(after.able[0], after.marks[0]);
        return (int) ratio.part(what);
    }

    // ---- who stands there twice

    public int person(int p, int what) {
        if (!within(p, 1, LAST_PERSON) || !within(what, 0, 4)) {
            return BAD;
        }
        int names = books.marksOf(p, NAME);
        switch (what) {
            case 0: return names + books.marksOf(p, CROSS);
            case 1: return names;
            case 2: return books.changedFrom(p, CROSS) ? 1 : 0;
            case 3: return books.changedFrom(p, NAME) ? 1 : 0;
            default: return names < 2 ? NONE : books.mostApart(p);
        }
    }

    public int twice(int what) {
        if (!within(what, 0, 2)) {
            return BAD;
        }
        tallyPersons();
        int found = 0;
        for (int p = 1; p <= LAST_PERSON; p++) {
            int crosses = standing[CROSS][p];
            int names = standing[NAME][p];
            if (crosses + names >= 2 && (what != 2 || crosses > 0 && names > 0)) {
                if (what == 1) {
                    return p;
                }
                found++;
            }
        }
        return what == 1 ? NONE : found;
    }

    public int find(int parish, int n, int what) {
        if (!isParish(parish) || !within(n, 0, 4) || !within(what, 0, 1)) {
            return BAD;
        }
        int names = gatherHands(parish);
        if (names == 0) {
            return NONE;
        }
        int best = 0;
        int most = 0;
        for (int hand = 0; hand <= LAST_HAND; hand++) {
            int near = howManyNear(hand, n, names);
            if (near > most) {
                best = hand;
                most = near;
            }
        }
        return what == 0 ? best : most;
    }

    // ---- images, sheets

    public int keep(int k) {
        if (!within(k, 0, 1)) {
            return BAD;
        }
        Image image = images[k];
        int was = image.kept ? 1 : 0;
        image.kept = true;
        image.books.copy(books);
        image.first.copy(choices[0]);
        image.second.copy(choices[1]);
        return was;
    }

    public int back(int k) {
        if (!within(k, 0, 1)) {
            return BAD;
        }
        Image image = images[k];
        if (!image.kept || !image.books.areAllBelow(ours.parishes)) {
            return STATE;
        }
        books.copy(image.books);
        choices[0].copy(image.first);
        choices[1].copy(image.second);
        choices[0].parishes &= ours.allParishes();
        choices[1].parishes &= ours.allParishes();
        kinds.stale = true;
        return books.size;
    }

    public int sheet(int k, int lane, int n) {
        if (!isSheet(k) || !isLane(lane) || n > MOST_CELLS) {
            return BAD;
        }
        if (n < 0) {
            return -10 - SIZE_FAULT;
        }
        sheets[k].clear(lane, n);
        return 1;
    }

    public int lay(int k, int i, int v) {
        if (!isSheet(k)) {
            return BAD;
        }
        Sheet sheet = sheets[k];
        if (sheet.size < 0) {
            return -10 - NULL_FAULT;
        }
        if (!within(i, 0, sheet.size - 1)) {
            return -10 - INDEX_FAULT;
        }
        sheet.put(i, v);
        return 1;
    }

    public int read(int k, int lane, int f, int n) {
        if (!isSheet(k) || !isLane(lane) || !within(n, 0, MOST_READ)) {
            return BAD;
        }
        Sheet sheet = sheets[k];
        int torn = n == 0 ? 0 : sheet.faultAs(lane);
        int whole = n == 0 || torn != 0 ? 0 : sheet.wholeMarriages(f, n);
        if (torn == 0 && whole < n) {
            torn = INDEX_FAULT;
        }
        int refused = refusalOf(sheet, f, whole);
        if (refused != 0) {
            return refused;
        }
        appendFrom(sheet, f, whole);
        latestTorn = torn;
        return whole;
    }

    public int torn() {
        return latestTorn;
    }

    public int count(int what) {
        switch (what) {
            case 0: return books.size;
            case 1: return tape.length;
            case 2: return sheets[0].size < 0 ? NONE : sheets[0].size;
            case 3: return (images[0].kept ? 1 : 0) + (images[1].kept ? 1 : 0);
            case 4: return ours.towns();
            default: return BAD;
        }
    }

    // ---- what may be asked

    private static boolean within(int v, int low, int high) {
        return v >= low && v <= high;
    }

    private static boolean hasBit(int bits, int i) {
        return (bits >> i & 1) != 0;
    }

    private static int bitsApart(int a, int b) {
        return Integer.bitCount(a ^ b);
    }

    private boolean isParish(int p) {
        return within(p, 0, ours.parishes - 1);
    }

    private boolean areParishes(int bits) {
        return within(bits, 0, ours.allParishes());
    }

    private boolean isInBooks(int m) {
        return within(m, 0, books.size - 1);
    }

    private boolean isMark(int m, int side) {
        return isInBooks(m) && within(side, 0, 1);
    }

    private static boolean isChoice(int c) {
        return within(c, 0, 1);
    }

    private static boolean isSheet(int k) {
        return within(k, 0, 3);
    }

    private static boolean isLane(int lane) {
        return within(lane, Sheet.BYTES, Sheet.INTS);
    }

    private static boolean areLearntYears(int a, int b) {
        return within(a, FIRST_LEARNT, LAST_YEAR) && within(b, a, LAST_YEAR);
    }

    private boolean isMarriage(int parish, int year, int trade, int groom, int bride) {
        return isParish(parish) && within(year, 0, LAST_YEAR) && within(trade, 0, LAST_TRADE)
                && within(groom, CROSS, NAME) && within(bride, CROSS, NAME);
    }

    private static boolean mayBe(int what, int v) {
        switch (what) {
            case MARK: return within(v, CROSS, NAME);
            case AGE: return v == 0 || within(v, LEAST_AGE, GREATEST_AGE);
            case HAND: return within(v, 0, LAST_HAND);
            case PERSON: return within(v, 0, LAST_PERSON);
            case BORN: return within(v, 0, 1);
            default: return false;
        }
    }

    private void takeDraft() {
        Land was = ours;
        ours = draft;
        draft = was;
        books.size = 0;
        choices[0].becomeAll(ours.allParishes());
        choices[1].becomeAll(ours.allParishes());
        kinds.stale = true;
    }

    // ---- counting the marks of a choice

    private int howMany(int c, int what) {
        kinds.renew(books, ours);
        int found = 0;
        for (int mark = 0; mark < books.marks(); mark++) {
            if (choices[c].takes(books, mark) && isOfSort(mark, what)) {
                found++;
            }
        }
        return found;
    }

    private boolean isOfSort(int mark, int what) {
        switch (what) {
            case 0: return true;
            case 1: return kinds.isAble(mark);
            case 2: return books.side[MARK][mark] == CROSS;
            default: return kinds.kind[mark] == what - 10;
        }
    }

    private int howManyPairs(int c, int groom, int bride) {
        int found = 0;
        for (int m = 0; m < books.size; m++) {
            if (choices[c].takes(books, 2 * m) && choices[c].takes(books, 2 * m + 1)
                    && books.side[MARK][2 * m] == groom && books.side[MARK][2 * m + 1] == bride) {
                found++;
            }
        }
        return found;
    }

    private int howManyLearnt(int c, int a, int b, int what) {
        kinds.renew(books, ours);
        int wanted = what % 2 == 0 ? SURELY_IN : PERHAPS_IN;
        int found = 0;
        for (int mark = 0; mark < books.marks(); mark++) {
            if (choices[c].takes(books, mark) && (what < 2 || kinds.isAble(mark))
                    && howSurelyLearnt(mark, a, b) == wanted) {
                found++;
            }
        }
        return found;
    }

    private int howSurelyLearnt(int mark, int a, int b) {
        int learnt = books.yearOf(mark) + ours.learn;
        int age = books.side[AGE][mark];
        int earliest = learnt - (age == 0 ? ours.greatestAge : age);
        int latest = learnt - (age == 0 ? ours.leastAge : age);
        if (earliest >= a && latest <= b) {
            return SURELY_IN;
        }
        return earliest <= b && latest >= a ? PERHAPS_IN : NOT_IN;
    }

    private void tallyGroups(Tally tally, int c, int groups) {
        kinds.renew(books, ours);
        tally.clear();
        for (int mark = 0; mark < books.marks(); mark++) {
            if (choices[c].takes(books, mark)) {
                tally.add(books.groupOf(mark, groups), kinds.isAble(mark));
            }
        }
    }

    private void tallyTens(int c) {
        kinds.renew(books, ours);
        after.clear();
        for (int mark = 0; mark < books.marks(); mark++) {
            int age = books.side[AGE][mark];
            int learnt = books.yearOf(mark) - age + ours.learn;
            if (age != 0 && within(learnt, FIRST_LEARNT, LAST_YEAR) && choices[c].takes(books, mark)) {
                after.add((learnt - FIRST_LEARNT) / 10, kinds.isAble(mark));
            }
        }
    }

    /** Groups: 0 without one, ahead; 1 without, from the year on; 2 with one, ahead; 3 with, from the year on. */
    private void tallyQuarters(int kind, int year) {
        kinds.renew(books, ours);
        after.clear();
        for (int mark = 0; mark < books.marks(); mark++) {
            if (choices[0].takes(books, mark)) {
                int since = ours.parish[2 + kind][books.pair[PARISH][mark / 2]];
                int with = within(since, 0, year) ? 2 : 0;
                after.add(with + (books.yearOf(mark) >= year ? 1 : 0), kinds.isAble(mark));
            }
        }
    }

    private int fractionOrNone(int top, int bottom, int what) {
        if (bottom == 0) {
            return NONE;
        }
        ratio.become(top, bottom);
        return (int) ratio.part(what);
    }

    // ---- drawn parishes: what is asked is told by the tally "after", of choice 0 by parishes

    private boolean allHaveMarks(int parishes) {
        for (int p = 0; p < ours.parishes; p++) {
            if (hasBit(parishes, p) && after.marks[p] == 0) {
                return false;
            }
        }
        return true;
    }

    /** The parish with most marriages of those below a number that can be drawn and are not; -1 if there is none. */
    private int largestBelow(int number, int drawn) {
        int best = -1;
        for (int p = 0; p < number; p++) {
            boolean free = after.marks[p] > 0 && !hasBit(drawn, p);
            if (free && (best < 0 || ours.parish[0][p] > ours.parish[0][best])) {
                best = p;
            }
        }
        return best;
    }

    /** How many marriages the drawn parishes must have, so that the others are no more than a by b of all. */
    private static int leastDrawn(int all, int a, int b) {
        return b < 1 ? all : all - all * a / b;
    }

    /** The fewest parishes below a number that have so many marriages together; -1 if all have fewer. */
    private int fewestBelow(int number, int needed) {
        int drawn = 0;
        int fewest = 0;
        int missing = needed;
        while (missing > 0 && fewest <= MOST_PARISHES) {
            int p = largestBelow(number, drawn);
            if (p < 0) {
                return -1;
            }
            drawn |= 1 << p;
            missing -= ours.parish[0][p];
            fewest++;
        }
        return fewest;
    }

    /** Going down from the last parish, each is left out where those below it still do. */
    private int leastBits(int fewest, int needed) {
        int bits = 0;
        int room = fewest;
        int missing = needed;
        for (int p = ours.parishes - 1; p >= 0; p--) {
            int without = fewestBelow(p, missing);
            if (without < 0 || without > room) {
                bits |= 1 << p;
                room--;
                missing -= ours.parish[0][p];
            }
        }
        return bits;
    }

    // ---- parts of a change, from the tally "before" to the tally "after"

    private static int ableOf(Tally own, Tally other, int g) {
        return own.marks[g] > 0 ? own.able[g] : other.able[g];
    }

    private static int marksOf(Tally own, Tally other, int g) {
        return own.marks[g] > 0 ? own.marks[g] : other.marks[g];
    }

    private long bottomOf(int g) {
        return 2L * before.allMarks * after.allMarks * marksOf(before, after, g) * marksOf(after, before, g);
    }

    private void addMore(int g) {
        long weight = (long) after.marks[g] * before.allMarks - (long) before.marks[g] * after.allMarks;
        long shares = (long) ableOf(before, after, g) * marksOf(after, before, g)
                + (long) ableOf(after, before, g) * marksOf(before, after, g);
        ratio.add(weight * shares, bottomOf(g));
    }

    private void addBetter(int g) {
        long weight = (long) after.marks[g] * before.allMarks + (long) before.marks[g] * after.allMarks;
        long shares = (long) ableOf(after, before, g) * marksOf(before, after, g)
                - (long) ableOf(before, after, g) * marksOf(after, before, g);
        ratio.add(weight * shares, bottomOf(g));
    }

    // ---- persons, hands

    private void tallyPersons() {
        for (int p = 0; p <= LAST_PERSON; p++) {
            standing[CROSS][p] = 0;
            standing[NAME][p] = 0;
        }
        for (int mark = 0; mark < books.marks(); mark++) {
            standing[books.side[MARK][mark]][books.side[PERSON][mark]]++;
        }
    }

    private int gatherHands(int parish) {
        int names = 0;
        for (int mark = 0; mark < books.marks(); mark++) {
            if (books.pair[PARISH][mark / 2] == parish && books.side[MARK][mark] == NAME) {
                handsFound[names] = books.side[HAND][mark];
                names++;
            }
        }
        return names;
    }

    private int howManyNear(int hand, int n, int names) {
        int near = 0;
        for (int i = 0; i < names; i++) {
            if (bitsApart(handsFound[i], hand) <= n) {
                near++;
            }
        }
        return near;
    }

    // ---- marriages from a sheet

    /** What refuses the first of so many whole marriages that is refused; 0 if none is. */
    private int refusalOf(Sheet sheet, int f, int whole) {
        for (int i = 0; i < whole; i++) {
            int at = f + CELLS_OF_MARRIAGE * i;
            if (!isMarriage(sheet.cells[at], sheet.cells[at + 1], sheet.cells[at + 2], sheet.cells[at + 3],
                    sheet.cells[at + 4])) {
                return -20 - i;
            }
            if (books.size + i >= MOST_MARRIAGES) {
                return FULL;
            }
        }
        return 0;
    }

    private void appendFrom(Sheet sheet, int f, int whole) {
        for (int i = 0; i < whole; i++) {
            int at = f + CELLS_OF_MARRIAGE * i;
            books.append(sheet.cells[at], sheet.cells[at + 1], sheet.cells[at + 2], sheet.cells[at + 3],
                    sheet.cells[at + 4]);
            kinds.stale = true;
        }
    }

    static final class Tape {
        final byte[] bytes = new byte[TAPE_BYTES];
        int length = 0;

        boolean append(long eight) {
            if (length + 8 > TAPE_BYTES) {
                return false;
            }
            for (int shift = 56; shift >= 0; shift -= 8) {
                bytes[length] = (byte) (eight >> shift);
                length++;
            }
            return true;
        }
    }

    /** What a text tells of a land. */
    static final class Land {
        int parishes;
        int clerks;
        int learn;
        int leastAge;
        int greatestAge;
        int never;
        int picture;
        /** Of crosses, of names: how many could read, how many were tried. */
        final int[] tried = new int[4];
        /** By what parish() is asked: marriages there were, town, mill, school. */
        final int[][] parish = new int[4][MOST_PARISHES];
        /** By what clerk() is asked: parish, from, to, hand, how far apart. */
        final int[][] clerk = new int[5][MOST_CLERKS];

        Land() {
            clear();
        }

        void clear() {
            parishes = 0;
            clerks = 0;
            learn = 11;
            leastAge = 20;
            greatestAge = 35;
            never = 0;
            picture = 1;
            tried[0] = 0;
            tried[1] = 1;
            tried[2] = 1;
            tried[3] = 1;
        }

        int allParishes() {
            return (1 << parishes) - 1;
        }

        int marriagesOf(int bits) {
            int sum = 0;
            for (int p = 0; p < parishes; p++) {
                if (hasBit(bits, p)) {
                    sum += parish[0][p];
                }
            }
            return sum;
        }

        int towns() {
            int found = 0;
            for (int p = 0; p < parishes; p++) {
                found += parish[1][p];
            }
            return found;
        }

        boolean writes(int k, int inParish, int year, int hand) {
            return clerk[0][k] == inParish && within(year, clerk[1][k], clerk[2][k])
                    && bitsApart(hand, clerk[3][k]) <= clerk[4][k];
        }
    }

    /** Reads a land into a draft, token by token; behind the first fault nothing more is taken. */
    static final class LandReader {
        private static final int END = 0, WORD = 1, NUMBER = 2, STOP = 3, BLANK = 4, OTHER = 5;
        private static final int MOST_FIGURES = 3;
        private static final int NO_TOKEN = 1, WRONG_TOKEN = 2, OUT_OF_BOUNDS = 3, SECOND_TIME = 4, TOO_MANY = 5;
        /** Bits of what may be told once; "tried" has two, of a cross and of a name. */
        private static final int LEARN = 1, AGES = 2, NEVER = 4, PICTURE = 8, TRIED = 16;

        private Tape tape;
        private Land draft;
        private int at;
        private int token;
        private int place;
        private int value;
        private int seen;
        int fault;
        int faultPlace;

        int readLines(Tape from, Land into) {
            tape = from;
            draft = into;
            draft.clear();
            at = 0;
            seen = 0;
            fault = 0;
            faultPlace = 0;
            advance();
            int lines = 0;
            while (token != END && lines < TAPE_BYTES) {
                takeLine();
                lines++;
            }
            return lines;
        }

        private void takeLine() {
            if (isWord("parish")) {
                takeParish();
            } else if (isWord("clerk")) {
                takeClerk();
            } else if (isWord("tried")) {
                takeTried();
            } else if (isWord("learn")) {
                takeOnce(LEARN);
                draft.learn = takeNumber(5, 20);
            } else if (isWord("ages")) {
                takeOnce(AGES);
                draft.leastAge = takeNumber(LEAST_AGE, GREATEST_AGE);
                draft.greatestAge = takeNumber(draft.leastAge, GREATEST_AGE);
            } else if (isWord("never")) {
                takeOnce(NEVER);
                draft.never = takeNumber(0, 999);
            } else if (isWord("picture")) {
                takeOnce(PICTURE);
                draft.picture = takeNumber(0, 8);
            } else {
                refuse(WRONG_TOKEN);
            }
            takeStop();
        }

        private void takeParish() {
            int p = draft.parishes;
            if (p >= MOST_PARISHES) {
                refuse(TOO_MANY);
                return;
            }
            advance();
            draft.parish[0][p] = takeNumber(1, 999);
            draft.parish[1][p] = takeWord("town") ? 1 : 0;
            draft.parish[2][p] = takeWord("mill") ? takeNumber(0, LAST_YEAR) : NONE;
            draft.parish[3][p] = takeWord("school") ? takeNumber(0, LAST_YEAR) : NONE;
            draft.parishes = p + 1;
        }

        private void takeClerk() {
            int k = draft.clerks;
            if (k >= MOST_CLERKS) {
                refuse(TOO_MANY);
                return;
            }
            advance();
            draft.clerk[0][k] = takeNumber(0, draft.parishes - 1);
            draft.clerk[1][k] = takeNumber(0, LAST_YEAR);
            draft.clerk[2][k] = takeNumber(draft.clerk[1][k], LAST_YEAR);
            draft.clerk[3][k] = takeNumber(0, LAST_HAND);
            draft.clerk[4][k] = takeNumber(0, 4);
            draft.clerks = k + 1;
        }

        private void takeTried() {
            advance();
            int mark = isWord("name") ? NAME : CROSS;
            if (!isWord("name") && !isWord("cross")) {
                refuse(WRONG_TOKEN);
                return;
            }
            takeOnce(TRIED << mark);
            draft.tried[2 * mark] = takeNumber(0, 999);
            draft.tried[2 * mark + 1] = takeNumber(Math.max(1, draft.tried[2 * mark]), 999);
        }

        private void takeOnce(int bit) {
            if ((seen & bit) != 0) {
                refuse(SECOND_TIME);
                return;
            }
            seen |= bit;
            advance();
        }

        private boolean takeWord(String word) {
            if (!isWord(word)) {
                return false;
            }
            advance();
            return true;
        }

        private int takeNumber(int low, int high) {
            if (token != NUMBER) {
                refuse(WRONG_TOKEN);
                return low;
            }
            if (!within(value, low, high)) {
                refuse(OUT_OF_BOUNDS);
                return low;
            }
            int taken = value;
            advance();
            return taken;
        }

        private void takeStop() {
            if (token != STOP) {
                refuse(WRONG_TOKEN);
                return;
            }
            advance();
        }

        /** The first fault counts; the token becomes the end, at which nothing can be taken any more. */
        private void refuse(int why) {
            if (fault == 0) {
                fault = why;
                faultPlace = place;
            }
            token = END;
        }

        private void advance() {
            while (at < tape.length && sortAt(at) == BLANK) {
                at++;
            }
            place = at;
            token = at < tape.length ? sortAt(at) : END;
            if (token == OTHER) {
                refuse(NO_TOKEN);
            } else if (token == STOP) {
                at++;
            } else if (token != END) {
                readRow();
            }
        }

        /** A row of letters or of figures, as long as may be. */
        private void readRow() {
            value = 0;
            while (at < tape.length && sortAt(at) == token) {
                value = value * 10 + (tape.bytes[at] - '0');
                at++;
            }
            if (token == NUMBER && at - place > MOST_FIGURES) {
                refuse(NO_TOKEN);
            }
        }

        private int sortAt(int i) {
            byte b = tape.bytes[i];
            if (b >= 'a' && b <= 'z') {
                return WORD;
            }
            if (b >= '0' && b <= '9') {
                return NUMBER;
            }
            if (b == ' ') {
                return BLANK;
            }
            return b == ';' ? STOP : OTHER;
        }

        private boolean isWord(String word) {
            if (token != WORD || at - place != word.length()) {
                return false;
            }
            for (int i = 0; i < word.length(); i++) {
                if (tape.bytes[place + i] != word.charAt(i)) {
                    return false;
                }
            }
            return true;
        }
    }

    /** The marriages there are. */
    static final class Books {
        int size = 0;
        /** By what of() is asked, of each marriage. */
        final int[][] pair = new int[3][MOST_MARRIAGES];
        /** By what has() is asked, of each mark. */
        final int[][] side = new int[5][MOST_MARKS];

        int marks() {
            return 2 * size;
        }

        int yearOf(int mark) {
            return pair[YEAR][mark / 2];
        }

        int append(int parish, int year, int trade, int groom, int bride) {
            int m = size;
            pair[PARISH][m] = parish;
            pair[YEAR][m] = year;
            pair[TRADE][m] = trade;
            startSide(2 * m, groom);
            startSide(2 * m + 1, bride);
            size++;
            return m;
        }

        private void startSide(int mark, int put) {
            side[MARK][mark] = put;
            side[AGE][mark] = 0;
            side[HAND][mark] = 0;
            side[PERSON][mark] = 0;
            side[BORN][mark] = 1;
        }

        void drop(int m) {
            int behind = size - m - 1;
            for (int what = 0; what < pair.length; what++) {
                System.arraycopy(pair[what], m + 1, pair[what], m, behind);
            }
            for (int what = 0; what < side.length; what++) {
                System.arraycopy(side[what], 2 * m + 2, side[what], 2 * m, 2 * behind);
            }
            size--;
        }

        void copy(Books from) {
            size = from.size;
            for (int what = 0; what < pair.length; what++) {
                System.arraycopy(from.pair[what], 0, pair[what], 0, size);
            }
            for (int what = 0; what < side.length; what++) {
                System.arraycopy(from.side[what], 0, side[what], 0, 2 * size);
            }
        }

        boolean areAllBelow(int parishes) {
            for (int m = 0; m < size; m++) {
                if (pair[PARISH][m] >= parishes) {
                    return false;
                }
            }
            return true;
        }

        int marriagesIn(int parish) {
            int found = 0;
            for (int m = 0; m < size; m++) {
                if (pair[PARISH][m] == parish) {
                    found++;
                }
            }
            return found;
        }

        int groupOf(int mark, int groups) {
            switch (groups) {
                case BY_PARISHES: return pair[PARISH][mark / 2];
                case BY_TRADES: return pair[TRADE][mark / 2];
                case BY_SIDES: return mark % 2;
                default: return side[BORN][mark];
            }
        }

        boolean isOf(int mark, int person, int put) {
            return side[PERSON][mark] == person && side[MARK][mark] == put;
        }

        int marksOf(int person, int put) {
            int found = 0;
            for (int mark = 0; mark < marks(); mark++) {
                if (isOf(mark, person, put)) {
                    found++;
                }
            }
            return found;
        }

        /** Whether a person put this in one year and the other mark in a later one. */
        boolean changedFrom(int person, int first) {
            int earliest = LAST_YEAR + 1;
            int latest = -1;
            for (int mark = 0; mark < marks(); mark++) {
                if (isOf(mark, person, first)) {
                    earliest = Math.min(earliest, yearOf(mark));
                } else if (side[PERSON][mark] == person) {
                    latest = Math.max(latest, yearOf(mark));
                }
            }
            return earliest < latest;
        }

        int mostApart(int person) {
            int most = 0;
            for (int a = 0; a < marks(); a++) {
                for (int b = 0; b < a && isOf(a, person, NAME); b++) {
                    if (isOf(b, person, NAME)) {
                        most = Math.max(most, bitsApart(side[HAND][a], side[HAND][b]));
                    }
                }
            }
            return most;
        }
    }

    /** The kinds of all marks, reckoned when they are asked for and something has changed. */
    static final class Kinds {
        boolean stale = true;
        final int[] kind = new int[MOST_MARKS];
        /** The first clerk who wrote a mark, NONE if it was no clerk. */
        final int[] writer = new int[MOST_MARKS];
        private Books books;
        private Land land;

        /** Each round looks at what the rounds ahead of it have found of all marks. */
        void renew(Books ofBooks, Land ofLand) {
            if (!stale) {
                return;
            }
            stale = false;
            books = ofBooks;
            land = ofLand;
            for (int mark = 0; mark < books.marks(); mark++) {
                writer[mark] = firstWriter(mark);
            }
            for (int mark = 0; mark < books.marks(); mark++) {
                kind[mark] = books.side[MARK][mark] == NAME ? kindOfName(mark) : CROSSED;
            }
            for (int mark = 0; mark < books.marks(); mark++) {
                if (kind[mark] == CROSSED && wasNamedBefore(mark)) {
                    kind[mark] = SPARED;
                }
            }
        }

        boolean isAble(int mark) {
            return kind[mark] == SPARED || kind[mark] == NAMED;
        }

        int writtenBy(int k, int marks) {
            int found = 0;
            for (int mark = 0; mark < marks; mark++) {
                if (writer[mark] == k) {
                    found++;
                }
            }
            return found;
        }

        private int firstWriter(int mark) {
            if (books.side[MARK][mark] == CROSS) {
                return NONE;
            }
            int parish = books.pair[PARISH][mark / 2];
            for (int k = 0; k < land.clerks; k++) {
                if (land.writes(k, parish, books.yearOf(mark), books.side[HAND][mark])) {
                    return k;
                }
            }
            return NONE;
        }

        private int kindOfName(int mark) {
            if (writer[mark] != NONE) {
                return WRITTEN;
            }
            return isDrawn(mark) ? DRAWN : NAMED;
        }

        /** A second name in the same marriage is no proof, but it must be near as all others. */
        private boolean isDrawn(int mark) {
            int person = books.side[PERSON][mark];
            boolean elsewhere = false;
            for (int other = 0; other < books.marks() && person != 0; other++) {
                if (other != mark && books.isOf(other, person, NAME) && writer[other] == NONE) {
                    if (bitsApart(books.side[HAND][other], books.side[HAND][mark]) > land.picture) {
                        return false;
                    }
                    elsewhere = elsewhere || other / 2 != mark / 2;
                }
            }
            return elsewhere;
        }

        private boolean wasNamedBefore(int mark) {
            int person = books.side[PERSON][mark];
            for (int other = 0; other < books.marks() && person != 0; other++) {
                if (books.side[PERSON][other] == person && kind[other] == NAMED
                        && books.yearOf(other) < books.yearOf(mark)) {
                    return true;
                }
            }
            return false;
        }
    }

    /** Which marks are looked at. */
    static final class Choice {
        int parishes;
        private int from;
        private int to;
        private int sides;
        private int trades;

        Choice() {
            becomeAll(0);
        }

        void becomeAll(int allParishes) {
            become(allParishes, 0, LAST_YEAR, BOTH_SIDES, ALL_TRADES);
        }

        void become(int newParishes, int newFrom, int newTo, int newSides, int newTrades) {
            parishes = newParishes;
            from = newFrom;
            to = newTo;
            sides = newSides;
            trades = newTrades;
        }

        void copy(Choice other) {
            become(other.parishes, other.from, other.to, other.sides, other.trades);
        }

        boolean takes(Books books, int mark) {
            int m = mark / 2;
            return hasBit(parishes, books.pair[PARISH][m]) && within(books.pair[YEAR][m], from, to)
                    && hasBit(sides, mark % 2) && hasBit(trades, books.pair[TRADE][m]);
        }
    }

    /** Marriages and choices as they were when they were kept. */
    static final class Image {
        boolean kept = false;
        final Books books = new Books();
        final Choice first = new Choice();
        final Choice second = new Choice();
    }

    /** A row of numbers of a lane; nothing, if its size is below 0. */
    static final class Sheet {
        static final int BYTES = 0, SHORTS = 1, INTS = 2;

        int size = -1;
        private int lane = BYTES;
        final int[] cells = new int[MOST_CELLS];

        void clear(int newLane, int newSize) {
            lane = newLane;
            size = newSize;
            for (int i = 0; i < MOST_CELLS; i++) {
                cells[i] = 0;
            }
        }

        void put(int i, int v) {
            if (lane == BYTES) {
                cells[i] = (byte) v;
            } else if (lane == SHORTS) {
                cells[i] = (short) v;
            } else {
                cells[i] = v;
            }
        }

        int faultAs(int asLane) {
            if (size < 0) {
                return NULL_FAULT;
            }
            return asLane == lane ? 0 : CAST_FAULT;
        }

        /** How many marriages of so many lie whole on the sheet from a cell on. */
        int wholeMarriages(int from, int most) {
            if (!within(from, 0, size)) {
                return 0;
            }
            return Math.min(most, (size - from) / CELLS_OF_MARRIAGE);
        }
    }

    /** Marks and those of them that are able, by groups. */
    static final class Tally {
        final int[] marks = new int[MOST_GROUPS];
        final int[] able = new int[MOST_GROUPS];
        int allMarks = 0;

        void clear() {
            allMarks = 0;
            for (int g = 0; g < MOST_GROUPS; g++) {
                marks[g] = 0;
                able[g] = 0;
            }
        }

        void add(int group, boolean isAble) {
            allMarks++;
            marks[group]++;
            if (isAble) {
                able[group]++;
            }
        }

        /** The first group with the greatest share of those with so many marks; -1 if there is none. */
        int greatestShare(int fewest) {
            int best = -1;
            for (int g = 0; g < MOST_GROUPS; g++) {
                if (marks[g] >= fewest && (best < 0 || able[g] * marks[best] > able[best] * marks[g])) {
                    best = g;
                }
            }
            return best;
        }

        int mostMarks() {
            int most = 0;
            for (int g = 1; g < MOST_GROUPS; g++) {
                if (marks[g] > marks[most]) {
                    most = g;
                }
            }
            return most;
        }
    }

    /** A fraction in lowest terms; what has 0 for its denominator is not taken. */
    static final class Ratio {
        /** More rounds than any two longs need. */
        private static final int MOST_ROUNDS = 100;

        long top = 0;
        long bottom = 1;

        void become(long newTop, long newBottom) {
            long common = commonOf(Math.abs(newTop), newBottom);
            if (newBottom < 1 || common < 1) {
                return;
            }
            top = newTop / common;
            bottom = newBottom / common;
        }

        /** By the least common denominator, so that sums of many groups keep within a long. */
        void add(long addTop, long addBottom) {
            long common = commonOf(bottom, addBottom);
            if (addBottom < 1 || common < 1) {
                return;
            }
            become(top * (addBottom / common) + addTop * (bottom / common), bottom / common * addBottom);
        }

        long part(int what) {
            return what % 2 == 0 ? top : bottom;
        }

        private static long commonOf(long a, long b) {
            long greater = a;
            long less = b;
            for (int i = 0; i < MOST_ROUNDS && less != 0; i++) {
                long rest = greater % less;
                greater = less;
                less = rest;
            }
            return greater;
        }
    }
}
