import java.util.List;

/** The boundary cases of images, sheets and counts: promises 36 to 42. */
public final class ImagesEdgesTest {
    private static final Check CHECK = new Check("ImagesEdgesTest");
    private static final int BAD = CrossOrName.BAD, STATE = CrossOrName.STATE, FULL = CrossOrName.FULL,
            NONE = CrossOrName.NONE;
    private static final int SMALLEST = Integer.MIN_VALUE, LARGEST = Integer.MAX_VALUE;

    public static void main(String[] args) {
        keepArguments();
        keepOfNothing();
        keepOfAFullBook();
        keepTakesThePlaceOfTheOlder();
        keepAndBackChangeNothing();
        backArguments();
        backToAnEmptyBook();
        backInASmallerLand();
        backRefusedChangesNothing();
        backWithoutParishesOfChoices();
        backKeepsTheRest();
        sheetAtItsBounds();
        sheetRefusedKeepsTheSheet();
        sheetIsNew();
        layAtItsBounds();
        layTheLowestBits();
        layOnOneSheetAlone();
        readOfNoMarriages();
        readArguments();
        readNullAheadOfCast();
        readOfEveryLane();
        readAtTheEndOfASheet();
        readFromAnyCell();
        readOfWhatIsNotWhole();
        readRefusedAsBad();
        readAtTheBoundsOfEachCell();
        readIsFull();
        readTheFirstMet();
        tornOfTheLatest();
        tornIsLeftByRefusedReads();
        countAtItsBounds();
        CHECK.finish();
    }

    // ---- promise 36

    private static void keepArguments() {
        CrossOrName x = Check.landOf("parish 5;");
        for (int k : new int[] {-1, 2, SMALLEST, LARGEST}) {
            CHECK.due("keep(" + k + ")", x.keep(k), BAD);
        }
        CHECK.due("no images", x.count(3), 0);
        CHECK.due("keep(1)", x.keep(1), 0);
        CHECK.due("one image", x.count(3), 1);
        CHECK.due("keep(1) again", x.keep(1), 1);
        CHECK.due("one image still", x.count(3), 1);
        CHECK.due("keep(0)", x.keep(0), 0);
        CHECK.due("two images", x.count(3), 2);
        CHECK.due("keep(0) again", x.keep(0), 1);
    }

    private static void keepOfNothing() {
        CrossOrName x = new CrossOrName();
        CHECK.due("keep ahead of a land", x.keep(0), 0);
        CHECK.due("back to it", x.back(0), 0);
        Check.tell(x, "parish 5;");
        x.marry(0, 0, 0, 1, 1);
        CHECK.due("two marks", x.many(0, 0), 2);
        CHECK.due("back to no marriages", x.back(0), 0);
        x.marry(0, 0, 0, 1, 1);
        CHECK.due("and to choices of no parishes", x.many(0, 0), 0);
        CHECK.due("both of them", x.many(1, 0), 0);
    }

    private static void keepOfAFullBook() {
        CrossOrName x = Check.landOf("parish 5;".repeat(12));
        for (int m = 0; m < 40; m++) {
            x.marry(m % 12, m, m % 8, 1, m % 2);
            x.set(m, 0, 2, m + 200);
        }
        x.set(39, 1, 1, 60);
        x.set(39, 1, 3, 99);
        x.set(39, 1, 4, 0);
        CHECK.due("keep", x.keep(1), 0);
        for (int m = 39; m >= 0; m--) {
            x.tear(m);
        }
        CHECK.due("none", x.count(0), 0);
        for (int m = 0; m < 40; m++) {
            x.marry(11 - m % 12, 89 - m, 7 - m % 8, 0, 1 - m % 2);
        }
        CHECK.due("back", x.back(1), 40);
        for (int m = 0; m < 40; m++) {
            CHECK.due("parish", x.of(m, 0), m % 12);
            CHECK.due("year", x.of(m, 1), m);
            CHECK.due("trade", x.of(m, 2), m % 8);
            CHECK.due("bride", x.has(m, 1, 0), m % 2);
            CHECK.due("hand", x.has(m, 0, 2), m + 200);
        }
        CHECK.due("age of the last", x.has(39, 1, 1), 60);
        CHECK.due("person of the last", x.has(39, 1, 3), 99);
        CHECK.due("born of the last", x.has(39, 1, 4), 0);
        CHECK.due("no room", x.marry(0, 0, 0, 0, 0), FULL);
    }

    private static void keepTakesThePlaceOfTheOlder() {
        CrossOrName x = Check.landOf("parish 5;");
        x.marry(0, 1, 0, 1, 1);
        x.marry(0, 2, 0, 1, 1);
        x.keep(0);
        x.tear(0);
        x.choose(1, 1, 0, 89, 1, 255);
        CHECK.due("keep again", x.keep(0), 1);
        x.tear(0);
        x.choose(1, 1, 0, 89, 3, 255);
        CHECK.due("the newer one", x.back(0), 1);
        CHECK.due("its year", x.of(0, 1), 2);
        CHECK.due("its choice", x.many(1, 0), 1);
    }

    private static void keepAndBackChangeNothing() {
        List<String> untouched = Everything.of(Everything.rich());
        CrossOrName x = Everything.rich();
        CHECK.due("keep", x.keep(1), 0);
        CHECK.due("back at once", x.back(1), 6);
        String difference = Everything.difference(untouched, Everything.of(x), "count 3", "back 1", "marriages", "choice");
        CHECK.due("it changed " + difference, difference.length(), 0);
    }

    // ---- promise 37

    private static void backArguments() {
        CrossOrName x = Check.landOf("parish 5;");
        CHECK.due("there is no image 0", x.back(0), STATE);
        CHECK.due("there is no image 1", x.back(1), STATE);
        for (int k : new int[] {-1, 2, SMALLEST, LARGEST}) {
            CHECK.due("back(" + k + ")", x.back(k), BAD);
        }
        x.keep(1);
        CHECK.due("there is no image 0 still", x.back(0), STATE);
        CHECK.due("there is image 1", x.back(1), 0);
        CHECK.due("back(2)", x.back(2), BAD);
    }

    private static void backToAnEmptyBook() {
        CrossOrName x = Check.landOf("parish 5;");
        x.keep(0);
        x.marry(0, 0, 0, 1, 1);
        CHECK.due("back", x.back(0), 0);
        CHECK.due("of the first", x.of(0, 0), BAD);
        Check.tell(x, "");
        CHECK.due("no marriage is in a parish that there is not", x.back(0), 0);
        CHECK.due("choices have none", x.many(0, 0), 0);
    }

    private static void backInASmallerLand() {
        CrossOrName x = Check.landOf("parish 5;parish 6;parish 7;");
        x.marry(0, 0, 0, 1, 1);
        x.marry(1, 0, 0, 1, 1);
        x.keep(0);
        int[] want = {STATE, STATE, 2, 2, 2};
        for (int parishes = 0; parishes < want.length; parishes++) {
            Check.tell(x, "parish 9;".repeat(parishes));
            CHECK.due("back with " + parishes + " parishes", x.back(0), want[parishes]);
            CHECK.due("marriages", x.count(0), want[parishes] == STATE ? 0 : 2);
        }
    }

    private static void backRefusedChangesNothing() {
        List<String> untouched = Everything.of(rich(false));
        List<String> refused = Everything.of(rich(true));
        String difference = Everything.difference(untouched, refused);
        CHECK.due("it changed " + difference, difference.length(), 0);
    }

    /** In a land of two parishes, with an image of a marriage in a third. */
    private static CrossOrName rich(boolean back) {
        CrossOrName x = Everything.rich();
        x.keep(1);
        x.end(0);
        Check.tell(x, "parish 3;parish 4;");
        x.marry(0, 5, 1, 1, 0);
        x.set(0, 0, 3, 7);
        x.choose(0, 1, 1, 88, 1, 3);
        x.choose(1, 2, 2, 87, 2, 7);
        if (back) {
            CHECK.due("back to a parish that there is not", x.back(1), STATE);
        }
        return x;
    }

    private static void backWithoutParishesOfChoices() {
        CrossOrName x = Check.landOf("parish 5;".repeat(12));
        x.marry(0, 0, 0, 1, 1);
        x.choose(1, 2048, 3, 4, 2, 128);
        x.keep(0);
        Check.tell(x, "parish 5;".repeat(11));
        CHECK.due("back", x.back(0), 1);
        x.marry(10, 3, 7, 1, 1);
        CHECK.due("choice 0 has the others", x.many(0, 0), 4);
        CHECK.due("choice 1 has none", x.many(1, 0), 0);
        Check.tell(x, "parish 5;".repeat(12));
        CHECK.due("back in the land of before", x.back(0), 1);
        x.marry(11, 3, 7, 1, 1);
        CHECK.due("choice 0 has all", x.many(0, 0), 4);
        CHECK.due("choice 1 has its parish", x.many(1, 0), 1);
    }

    private static void backKeepsTheRest() {
        CrossOrName x = Check.landOf("parish 5;never 7;");
        x.keep(0);
        x.sheet(0, 0, 9);
        x.read(0, 0, 9, 1);
        x.feed(0);
        x.end(5);
        x.back(0);
        CHECK.due("never", x.told(5), 7);
        CHECK.due("cells", x.count(2), 9);
        CHECK.due("torn", x.torn(), 2);
        CHECK.due("bytes", x.count(1), 5);
        CHECK.due("images", x.count(3), 1);
    }

    // ---- promise 38

    private static void sheetAtItsBounds() {
        CrossOrName x = new CrossOrName();
        int[][] want = {{0, 1}, {1, 1}, {60, 1}, {61, BAD}, {LARGEST, BAD}, {-1, -14}, {SMALLEST, -14}};
        int cells = NONE;
        for (int[] w : want) {
            CHECK.due("sheet of " + w[0], x.sheet(0, 2, w[0]), w[1]);
            cells = w[1] == 1 ? w[0] : cells;
            CHECK.due("cells", x.count(2), cells);
        }
        for (int v : new int[] {-1, 4, SMALLEST, LARGEST}) {
            CHECK.due("sheet " + v, x.sheet(v, 0, 1), BAD);
            CHECK.due("sheet " + v + " of -1: BAD comes first", x.sheet(v, 0, -1), BAD);
        }
        for (int v : new int[] {-1, 3, SMALLEST, LARGEST}) {
            CHECK.due("lane " + v, x.sheet(0, v, 1), BAD);
            CHECK.due("lane " + v + " and -1: BAD comes first", x.sheet(0, v, -1), BAD);
        }
        CHECK.due("sheet 3, lane 0", x.sheet(3, 0, 60), 1);
        CHECK.due("its last cell", x.lay(3, 59, 0), 1);
        CHECK.due("behind it", x.lay(3, 60, 0), -12);
    }

    private static void sheetRefusedKeepsTheSheet() {
        CrossOrName x = Check.landOf("parish 5;");
        x.sheet(1, 1, 5);
        x.lay(1, 1, 44);
        CHECK.due("of 61", x.sheet(1, 0, 61), BAD);
        CHECK.due("of -1", x.sheet(1, 0, -1), -14);
        CHECK.due("of lane 3", x.sheet(1, 3, 5), BAD);
        CHECK.due("its lane and cells stay", x.read(1, 1, 0, 1), 1);
        CHECK.due("its year", x.of(0, 1), 44);
        CHECK.due("nothing stays nothing", x.sheet(2, 0, -1), -14);
        CHECK.due("lay on it", x.lay(2, 0, 0), -11);
    }

    private static void sheetIsNew() {
        CrossOrName x = Check.landOf("parish 5;");
        x.sheet(0, 0, 60);
        for (int i = 0; i < 60; i++) {
            x.lay(0, i, -1);
        }
        CHECK.due("the same again", x.sheet(0, 0, 60), 1);
        CHECK.due("its cells are 0", x.read(0, 0, 0, 12), 12);
        CHECK.due("to the last", x.has(11, 1, 0), 0);
        x.lay(0, 59, -1);
        CHECK.due("a shorter one", x.sheet(0, 2, 55), 1);
        CHECK.due("of another lane", x.read(0, 0, 0, 1), 0);
        CHECK.due("torn: cast", x.torn(), 3);
        CHECK.due("its cells", x.read(0, 2, 0, 12), 11);
        CHECK.due("torn: index", x.torn(), 2);
        CHECK.due("a longer one", x.sheet(0, 2, 60), 1);
        CHECK.due("has nothing of before", x.read(0, 2, 55, 1), 1);
    }

    // ---- promise 39

    private static void layAtItsBounds() {
        CrossOrName x = new CrossOrName();
        for (int i : new int[] {0, -1, 60, SMALLEST, LARGEST}) {
            CHECK.due("cell " + i + " of nothing", x.lay(0, i, 0), -11);
        }
        for (int n : new int[] {0, 1, 5, 60}) {
            x.sheet(0, 1, n);
            CHECK.due("the last of " + n, x.lay(0, n - 1, LARGEST), n == 0 ? -12 : 1);
            CHECK.due("the first of " + n, x.lay(0, 0, SMALLEST), n == 0 ? -12 : 1);
            for (int i : new int[] {n, -1, SMALLEST, LARGEST}) {
                CHECK.due("cell " + i + " of " + n, x.lay(0, i, 0), -12);
            }
        }
        for (int k : new int[] {-1, 4, SMALLEST, LARGEST}) {
            CHECK.due("lay on sheet " + k, x.lay(k, 0, 0), BAD);
            CHECK.due("lay on sheet " + k + ", cell -1: BAD comes first", x.lay(k, -1, 0), BAD);
        }
    }

    /** A cell is told by the year of a marriage that is read; what is below 0 or above 89 by the refusal. */
    private static void cell(int lane, int v, int want) {
        CrossOrName x = Check.landOf("parish 5;");
        x.sheet(0, lane, 5);
        CHECK.due("lay", x.lay(0, 1, v), 1);
        CHECK.due("lane " + lane + ", cell " + v, x.read(0, lane, 0, 1), want == BAD ? -20 : 1);
        CHECK.due("its year", x.of(0, 1), want);
    }

    private static void layTheLowestBits() {
        int[][] bytes = {{89, 89}, {256, 0}, {256 + 89, 89}, {-256, 0}, {-256 + 89, 89}, {127, BAD}, {128, BAD}, {255, BAD},
            {-1, BAD}, {SMALLEST, 0}, {LARGEST, BAD}, {65536 + 5, 5}, {SMALLEST + 7, 7}};
        for (int[] b : bytes) {
            cell(0, b[0], b[1]);
        }
        int[][] shorts = {{89, 89}, {256, BAD}, {65536, 0}, {65536 + 89, 89}, {-65536 + 89, 89}, {32767, BAD}, {32768, BAD},
            {65535, BAD}, {-1, BAD}, {SMALLEST, 0}, {LARGEST, BAD}, {SMALLEST + 7, 7}};
        for (int[] s : shorts) {
            cell(1, s[0], s[1]);
        }
        int[][] ints = {{89, 89}, {90, BAD}, {256, BAD}, {65536, BAD}, {65536 + 89, BAD}, {SMALLEST, BAD}, {SMALLEST + 7, BAD},
            {LARGEST, BAD}, {-1, BAD}, {0, 0}};
        for (int[] i : ints) {
            cell(2, i[0], i[1]);
        }
    }

    private static void layOnOneSheetAlone() {
        CrossOrName x = Check.landOf("parish 5;");
        for (int k = 0; k <= 3; k++) {
            x.sheet(k, 0, 5);
            x.lay(k, 1, 10 + k);
        }
        for (int k = 0; k <= 3; k++) {
            CHECK.due("read of sheet " + k, x.read(k, 0, 0, 1), 1);
            CHECK.due("its year", x.of(k, 1), 10 + k);
        }
    }

    // ---- promise 40

    private static void readOfNoMarriages() {
        CrossOrName x = Check.landOf("parish 5;");
        x.sheet(1, 0, 0);
        x.sheet(2, 1, 5);
        for (int k = 0; k <= 3; k++) {
            for (int f : new int[] {0, -1, 60, SMALLEST, LARGEST}) {
                x.read(3, 0, 0, 1);
                CHECK.due("a fault ahead", x.torn(), 1);
                CHECK.due("none of sheet " + k + " from " + f, x.read(k, 2, f, 0), 0);
                CHECK.due("no fault", x.torn(), 0);
            }
        }
        CHECK.due("none came", x.count(0), 0);
    }

    private static void readArguments() {
        CrossOrName x = Check.landOf("parish 5;");
        x.sheet(0, 0, 60);
        for (int v : new int[] {-1, 4, SMALLEST, LARGEST}) {
            CHECK.due("sheet " + v, x.read(v, 0, 0, 1), BAD);
            CHECK.due("sheet " + v + ", none", x.read(v, 0, 0, 0), BAD);
        }
        for (int v : new int[] {-1, 3, SMALLEST, LARGEST}) {
            CHECK.due("lane " + v, x.read(0, v, 0, 1), BAD);
            CHECK.due("lane " + v + ", none", x.read(0, v, 0, 0), BAD);
            CHECK.due("lane " + v + " of nothing", x.read(1, v, 0, 1), BAD);
        }
        for (int v : new int[] {-1, 13, SMALLEST, LARGEST}) {
            CHECK.due("n " + v, x.read(0, 0, 0, v), BAD);
            CHECK.due("n " + v + " of nothing", x.read(1, 0, 0, v), BAD);
        }
        CHECK.due("no fault yet", x.torn(), 0);
        CHECK.due("none came", x.count(0), 0);
        CHECK.due("n 12", x.read(0, 0, 0, 12), 12);
        CHECK.due("sheet 3, lane 2", x.read(3, 2, 0, 1), 0);
    }

    private static void readNullAheadOfCast() {
        CrossOrName x = Check.landOf("parish 5;");
        for (int lane = 0; lane <= 2; lane++) {
            CHECK.due("nothing as of lane " + lane, x.read(0, lane, -1, 12), 0);
            CHECK.due("torn: null", x.torn(), 1);
        }
        x.sheet(0, 1, 0);
        CHECK.due("no cells, another lane", x.read(0, 2, -1, 1), 0);
        CHECK.due("torn: cast ahead of index", x.torn(), 3);
        CHECK.due("no cells, its lane", x.read(0, 1, 0, 1), 0);
        CHECK.due("torn: index", x.torn(), 2);
        x.sheet(0, 1, 5);
        x.lay(0, 0, 9);
        CHECK.due("no marriage, another lane", x.read(0, 0, 0, 1), 0);
        CHECK.due("torn: cast", x.torn(), 3);
        CHECK.due("no marriage, its lane", x.read(0, 1, 0, 1), -20);
    }

    private static void readOfEveryLane() {
        for (int lane = 0; lane <= 2; lane++) {
            for (int as = 0; as <= 2; as++) {
                CrossOrName x = Check.landOf("parish 5;");
                x.sheet(0, lane, 5);
                CHECK.due("lane " + lane + " as " + as, x.read(0, as, 0, 1), lane == as ? 1 : 0);
                CHECK.due("torn", x.torn(), lane == as ? 0 : 3);
                CHECK.due("marriages", x.count(0), lane == as ? 1 : 0);
            }
        }
    }

    private static void readAtTheEndOfASheet() {
        for (int cells = 0; cells <= 16; cells++) {
            CrossOrName x = Check.landOf("parish 5;");
            x.sheet(0, 2, cells);
            int whole = Math.min(cells / 5, 3);
            CHECK.due("three of " + cells + " cells", x.read(0, 2, 0, 3), whole);
            CHECK.due("torn", x.torn(), whole == 3 ? 0 : 2);
            CHECK.due("marriages", x.count(0), whole);
        }
        CrossOrName y = Check.landOf("parish 5;");
        y.sheet(0, 0, 60);
        CHECK.due("the last cells", y.read(0, 0, 55, 1), 1);
        CHECK.due("not torn", y.torn(), 0);
        CHECK.due("one cell too far", y.read(0, 0, 56, 1), 0);
        CHECK.due("torn", y.torn(), 2);
        CHECK.due("twelve from cell 1", y.read(0, 0, 1, 12), 11);
        CHECK.due("torn, too", y.torn(), 2);
    }

    private static void readFromAnyCell() {
        CrossOrName x = Check.landOf("parish 5;");
        x.sheet(0, 0, 10);
        int[][] want = {{0, 1, 1, 0}, {5, 1, 1, 0}, {6, 1, 0, 2}, {9, 1, 0, 2}, {10, 1, 0, 2}, {11, 1, 0, 2}, {-1, 1, 0, 2},
            {-5, 1, 0, 2}, {-5, 2, 0, 2}, {-10, 12, 0, 2}, {LARGEST, 1, 0, 2}, {LARGEST, 12, 0, 2}, {LARGEST - 4, 2, 0, 2},
            {SMALLEST, 1, 0, 2}, {SMALLEST, 12, 0, 2}, {SMALLEST + 5, 2, 0, 2}};
        for (int[] w : want) {
            CHECK.due("read from " + w[0] + ", " + w[1], x.read(0, 0, w[0], w[1]), w[2]);
            CHECK.due("torn", x.torn(), w[3]);
        }
    }

    private static void readOfWhatIsNotWhole() {
        CrossOrName x = Check.landOf("parish 5;");
        x.sheet(0, 0, 9);
        for (int i = 5; i < 9; i++) {
            x.lay(0, i, -1);
        }
        CHECK.due("the whole one ahead comes", x.read(0, 0, 0, 2), 1);
        CHECK.due("torn: index", x.torn(), 2);
        x.lay(0, 0, 1);
        CHECK.due("the whole one ahead is refused", x.read(0, 0, 0, 2), -20);
        CHECK.due("none but the first came", x.count(0), 1);
    }

    private static void readRefusedAsBad() {
        for (int wrong = 0; wrong < 12; wrong++) {
            CrossOrName x = Check.landOf("parish 5;");
            x.sheet(0, 0, 60);
            x.lay(0, 5 * wrong + 4, 2);
            CHECK.due("marriage " + wrong, x.read(0, 0, 0, 12), -20 - wrong);
            CHECK.due("none came", x.count(0), 0);
            CHECK.due("those ahead of it", x.read(0, 0, 0, wrong), wrong);
            CHECK.due("that one alone", x.read(0, 0, 5 * wrong, 1), -20);
            x.lay(0, 59, 2);
            CHECK.due("the first of two", x.read(0, 0, 0, 12), -20 - wrong);
        }
    }

    private static void readAtTheBoundsOfEachCell() {
        int[] most = {1, 89, 7, 1, 1};
        for (int i = 0; i < 5; i++) {
            CrossOrName x = Check.landOf("parish 5;parish 6;");
            x.sheet(0, 2, 5);
            for (int v : new int[] {most[i] + 1, -1, SMALLEST, LARGEST}) {
                x.lay(0, i, v);
                CHECK.due("cell " + i + " is " + v, x.read(0, 2, 0, 1), -20);
            }
            x.lay(0, i, most[i]);
            CHECK.due("cell " + i + " is " + most[i], x.read(0, 2, 0, 1), 1);
            CHECK.due("it is as it was laid", i < 3 ? x.of(0, i) : x.has(0, i - 3, 0), most[i]);
            for (int side = 0; side <= 1; side++) {
                CHECK.due("age", x.has(0, side, 1), 0);
                CHECK.due("hand", x.has(0, side, 2), 0);
                CHECK.due("person", x.has(0, side, 3), 0);
                CHECK.due("born there", x.has(0, side, 4), 1);
            }
        }
        CHECK.due("in no parish", readOne(new CrossOrName()), -20);
    }

    private static int readOne(CrossOrName x) {
        x.sheet(0, 0, 5);
        return x.read(0, 0, 0, 1);
    }

    private static CrossOrName marriages(int n) {
        CrossOrName x = Check.landOf("parish 5;");
        for (int m = 0; m < n; m++) {
            x.marry(0, 0, 0, 1, 1);
        }
        x.sheet(0, 0, 60);
        return x;
    }

    private static void readIsFull() {
        for (int there = 27; there <= 40; there++) {
            CrossOrName x = marriages(there);
            int room = 40 - there;
            CHECK.due("12 behind " + there, x.read(0, 0, 0, 12), room >= 12 ? 12 : FULL);
            CHECK.due("marriages", x.count(0), room >= 12 ? there + 12 : there);
        }
        for (int there = 38; there <= 40; there++) {
            CrossOrName x = marriages(there);
            for (int n = 1; n <= 3; n++) {
                boolean fits = there + n <= 40;
                CHECK.due(n + " behind " + there, x.read(0, 0, 0, n), fits ? n : FULL);
                CHECK.due("marriages", x.count(0), fits ? there + n : there);
                while (x.count(0) > there) {
                    x.tear(there);
                }
            }
        }
        CrossOrName y = marriages(40);
        CHECK.due("none has room", y.read(0, 0, 0, 0), 0);
        CHECK.due("what is not whole needs none", y.read(0, 0, 56, 1), 0);
        CHECK.due("torn: index", y.torn(), 2);
        CHECK.due("another lane needs none", y.read(0, 1, 0, 1), 0);
        CHECK.due("torn: cast", y.torn(), 3);
        CHECK.due("nothing needs none", y.read(1, 0, 0, 1), 0);
        CHECK.due("torn: null", y.torn(), 1);
    }

    private static void readTheFirstMet() {
        CrossOrName x = marriages(39);
        x.lay(0, 10, 1);
        CHECK.due("the second has no room, the third is refused", x.read(0, 0, 0, 3), FULL);
        x.lay(0, 5, 1);
        CHECK.due("the second is refused and has no room: BAD comes first", x.read(0, 0, 0, 3), -21);
        x.lay(0, 0, 1);
        CHECK.due("the first is refused", x.read(0, 0, 0, 3), -20);
        x.lay(0, 0, 0);
        CHECK.due("none came", x.count(0), 39);
        CHECK.due("no room ahead of what is not whole", x.read(0, 0, 45, 4), FULL);
        CHECK.due("not torn", x.torn(), 0);
        CHECK.due("room, then what is not whole", x.read(0, 0, 55, 2), 1);
        CHECK.due("torn", x.torn(), 2);
    }

    // ---- promises 41 and 42

    private static void tornOfTheLatest() {
        CrossOrName x = Check.landOf("parish 5;");
        CHECK.due("ahead of a read", x.torn(), 0);
        x.sheet(0, 0, 5);
        int[][] reads = {{1, 0, 0, 1, 1}, {0, 0, 0, 1, 0}, {0, 1, 0, 1, 3}, {0, 0, 0, 0, 0}, {0, 0, 1, 1, 2}, {0, 0, 0, 2, 2},
            {1, 0, 0, 0, 0}, {0, 2, 0, 1, 3}, {0, 0, 0, 1, 0}};
        for (int[] r : reads) {
            x.read(r[0], r[1], r[2], r[3]);
            CHECK.due("torn", x.torn(), r[4]);
            CHECK.due("asked again", x.torn(), r[4]);
        }
        CHECK.due("lay's fault is its own", x.lay(0, 5, 0), -12);
        CHECK.due("sheet's, too", x.sheet(0, 0, -1), -14);
        CHECK.due("torn", x.torn(), 0);
    }

    private static void tornIsLeftByRefusedReads() {
        CrossOrName x = marriages(40);
        x.lay(0, 9, 2);
        int[][] faults = {{1, 0, 0, 1, 1}, {0, 0, 60, 1, 2}, {0, 1, 0, 1, 3}, {0, 0, 0, 0, 0}};
        for (int[] f : faults) {
            CHECK.due("read", x.read(f[0], f[1], f[2], f[3]), 0);
            int[][] refused = {{4, 0, 0, 1, BAD}, {0, 3, 0, 1, BAD}, {0, 0, 0, 13, BAD}, {0, 0, 5, 1, -20}, {0, 0, 0, 1, FULL}};
            for (int[] r : refused) {
                CHECK.due("refused", x.read(r[0], r[1], r[2], r[3]), r[4]);
                CHECK.due("torn as it was", x.torn(), f[4]);
            }
        }
    }

    private static void countAtItsBounds() {
        CrossOrName x = new CrossOrName();
        int[] first = {0, 0, NONE, 0, 0};
        for (int what = 0; what < first.length; what++) {
            CHECK.due("count(" + what + ") of a new one", x.count(what), first[what]);
        }
        for (int v : new int[] {-1, 5, SMALLEST, LARGEST}) {
            CHECK.due("count(" + v + ")", x.count(v), BAD);
        }
        Check.tell(x, "parish 5 town;".repeat(12));
        for (int m = 0; m < 40; m++) {
            x.marry(0, 0, 0, 0, 0);
        }
        for (int i = 0; i < 40; i++) {
            x.feed(0);
        }
        x.sheet(0, 0, 60);
        x.keep(0);
        x.keep(1);
        int[] most = {40, 320, 60, 2, 12};
        for (int what = 0; what < most.length; what++) {
            CHECK.due("count(" + what + ") at most", x.count(what), most[what]);
        }
        x.sheet(0, 0, 0);
        CHECK.due("a sheet of no cells", x.count(2), 0);
        x.sheet(1, 0, 7);
        CHECK.due("another sheet", x.count(2), 0);
        x.end(0);
        Check.tell(x, "parish 5;parish 6 town;");
        int[] then = {0, 0, 0, 2, 1};
        for (int what = 0; what < then.length; what++) {
            CHECK.due("count(" + what + ") behind a land", x.count(what), then[what]);
        }
    }
}
