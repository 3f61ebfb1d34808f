/** The boundary cases of marriages, marks and their kinds: promises 9 to 16. */
public final class BooksEdgesTest {
    private static final Check CHECK = new Check("BooksEdgesTest");
    private static final int BAD = CrossOrName.BAD, STATE = CrossOrName.STATE, FULL = CrossOrName.FULL,
            NONE = CrossOrName.NONE;
    private static final int[] OUTSIDE = {-1, Integer.MIN_VALUE, Integer.MAX_VALUE};

    public static void main(String[] args) {
        marryAtItsBounds();
        marryInTheLastParish();
        marryIsFullAt40();
        aNewMarriageIsNew();
        setAnswersWhatItWas();
        setAgeAtItsBounds();
        setMarkAndHand();
        handOfACross();
        ofAndHasAtTheirBounds();
        writtenAtTheBoundsOfYears();
        writtenAtTheBoundsOfHands();
        writtenByTheFirst();
        drawnAtTheBoundOfPicture();
        drawnNeedsAPerson();
        drawnNeedsAnotherMarriage();
        drawnLeavesOutWritten();
        sparedByAnEarlierYearAlone();
        sparedByNamedAlone();
        theLastKindThatFits();
        kindsFollowEveryChange();
        whatHasGoneMakesNoKind();
        kindsOfAFullBook();
        apartAtItsBounds();
        tearAtItsBounds();
        tearMovesAllUp();
        CHECK.finish();
    }

    // ---- promise 9

    private static void marryAtItsBounds() {
        CrossOrName x = Check.landOf("parish 5;parish 6;");
        int[][] right = {{0, 0, 0, 0, 0}, {1, 0, 0, 0, 0}, {0, 89, 0, 0, 0}, {0, 0, 7, 0, 0}, {0, 0, 0, 1, 0},
            {0, 0, 0, 0, 1}, {1, 89, 7, 1, 1}};
        for (int i = 0; i < right.length; i++) {
            int[] r = right[i];
            CHECK.due("marry number " + i, x.marry(r[0], r[1], r[2], r[3], r[4]), i);
            for (int what = 0; what < 3; what++) {
                CHECK.due("of(" + i + ", " + what + ")", x.of(i, what), r[what]);
            }
            CHECK.due("groom", x.has(i, 0, 0), r[3]);
            CHECK.due("bride", x.has(i, 1, 0), r[4]);
        }
        int[] first = {2, 90, 8, 2, 2};
        for (int i = 0; i < first.length; i++) {
            int[] a = new int[5];
            a[i] = first[i];
            CHECK.due("argument " + i + " is " + a[i], x.marry(a[0], a[1], a[2], a[3], a[4]), BAD);
            for (int v : OUTSIDE) {
                a[i] = v;
                CHECK.due("argument " + i + " is " + v, x.marry(a[0], a[1], a[2], a[3], a[4]), BAD);
            }
        }
        CHECK.due("none of these came", x.count(0), right.length);
    }

    private static void marryInTheLastParish() {
        CrossOrName x = Check.landOf("parish 5;".repeat(12));
        CHECK.due("parish 11", x.marry(11, 0, 0, 0, 0), 0);
        CHECK.due("parish 12", x.marry(12, 0, 0, 0, 0), BAD);
        CHECK.due("it is in choice 0", x.many(0, 0), 2);
    }

    private static void marryIsFullAt40() {
        CrossOrName x = Check.landOf("parish 5;");
        for (int m = 0; m < 39; m++) {
            x.marry(0, m, 0, 0, 0);
        }
        CHECK.due("the 40th", x.marry(0, 88, 7, 1, 0), 39);
        CHECK.due("the 41st", x.marry(0, 0, 0, 1, 1), FULL);
        CHECK.due("the 41st, in no parish", x.marry(1, 0, 0, 1, 1), BAD);
        CHECK.due("the 41st, in no year", x.marry(0, 90, 0, 1, 1), BAD);
        CHECK.due("the 41st, of no mark", x.marry(0, 0, 0, 1, 2), BAD);
        CHECK.due("40 as before", x.count(0), 40);
        CHECK.due("of the last", x.of(39, 1), 88);
        CHECK.due("of the 41st", x.of(40, 1), BAD);
        CHECK.due("names as before", x.many(0, 13), 1);
        CHECK.due("its hand", x.set(39, 0, 2, 255), 0);
        CHECK.due("tear", x.tear(0), 39);
        CHECK.due("room again", x.marry(0, 0, 0, 1, 1), 39);
        CHECK.due("full again", x.marry(0, 0, 0, 1, 1), FULL);
    }

    private static void aNewMarriageIsNew() {
        CrossOrName x = Check.landOf("parish 5;");
        x.marry(0, 9, 0, 1, 1);
        for (int side = 0; side <= 1; side++) {
            x.set(0, side, 1, 60);
            x.set(0, side, 2, 255);
            x.set(0, side, 3, 99);
            x.set(0, side, 4, 0);
        }
        x.tear(0);
        CHECK.due("the next one", x.marry(0, 0, 0, 1, 1), 0);
        for (int side = 0; side <= 1; side++) {
            CHECK.due("age", x.has(0, side, 1), 0);
            CHECK.due("hand", x.has(0, side, 2), 0);
            CHECK.due("person", x.has(0, side, 3), 0);
            CHECK.due("born there", x.has(0, side, 4), 1);
        }
    }

    // ---- promise 10

    private static void setAnswersWhatItWas() {
        CrossOrName x = Check.landOf("parish 5;");
        x.marry(0, 9, 0, 1, 1);
        x.marry(0, 9, 0, 1, 1);
        int[][] steps = {{4, 0, 1}, {4, 0, 0}, {4, 1, 0}, {3, 99, 0}, {3, 1, 99}, {3, 0, 1}, {2, 255, 0}, {2, 0, 255},
            {2, 254, 0}, {1, 60, 0}, {1, 16, 60}, {1, 0, 16}, {0, 1, 1}, {0, 0, 1}, {0, 0, 0}, {0, 1, 0}};
        for (int[] s : steps) {
            CHECK.due("set(1, 1, " + s[0] + ", " + s[1] + ")", x.set(1, 1, s[0], s[1]), s[2]);
            CHECK.due("has it now", x.has(1, 1, s[0]), s[1]);
            CHECK.due("set(1, 1, " + s[0] + ", 1000)", x.set(1, 1, s[0], 1000), BAD);
            CHECK.due("has it still", x.has(1, 1, s[0]), s[1]);
        }
        int[] untouched = {1, 0, 0, 0, 1};
        for (int what = 0; what < untouched.length; what++) {
            CHECK.due("the other side", x.has(1, 0, what), untouched[what]);
            CHECK.due("the other marriage", x.has(0, 1, what), untouched[what]);
        }
    }

    private static void setAgeAtItsBounds() {
        CrossOrName x = Check.landOf("parish 5;");
        x.marry(0, 9, 0, 1, 1);
        int was = 0;
        for (int age = -2; age <= 62; age++) {
            boolean may = age == 0 || age >= 16 && age <= 60;
            CHECK.due("age " + age, x.set(0, 0, 1, age), may ? was : BAD);
            was = may ? age : was;
            CHECK.due("age behind it", x.has(0, 0, 1), was);
        }
        for (int v : OUTSIDE) {
            CHECK.due("age " + v, x.set(0, 0, 1, v), BAD);
        }
    }

    private static void setMarkAndHand() {
        CrossOrName x = Check.landOf("parish 5;");
        x.marry(0, 9, 0, 1, 1);
        x.set(0, 0, 2, 200);
        x.set(0, 0, 1, 30);
        x.set(0, 0, 3, 7);
        x.set(0, 1, 2, 100);
        CHECK.due("a name for a name", x.set(0, 0, 0, 1), 1);
        CHECK.due("keeps its hand", x.has(0, 0, 2), 200);
        CHECK.due("no mark 2", x.set(0, 0, 0, 2), BAD);
        CHECK.due("its hand stays", x.has(0, 0, 2), 200);
        CHECK.due("a cross", x.set(0, 0, 0, 0), 1);
        CHECK.due("has hand 0", x.has(0, 0, 2), 0);
        CHECK.due("and its age", x.has(0, 0, 1), 30);
        CHECK.due("and its person", x.has(0, 0, 3), 7);
        CHECK.due("the bride's hand stays", x.has(0, 1, 2), 100);
        CHECK.due("a name again", x.set(0, 0, 0, 1), 0);
        CHECK.due("has hand 0 still", x.has(0, 0, 2), 0);
    }

    private static void handOfACross() {
        CrossOrName x = Check.landOf("parish 5;");
        x.marry(0, 9, 0, 1, 0);
        for (int v : new int[] {0, 1, 255}) {
            CHECK.due("hand " + v + " of a cross", x.set(0, 1, 2, v), STATE);
            CHECK.due("hand " + v + " of a name", x.set(0, 0, 2, v) >= 0 ? 1 : 0, 1);
        }
        for (int v : new int[] {-1, 256, Integer.MIN_VALUE, Integer.MAX_VALUE}) {
            CHECK.due("hand " + v + " of a cross: BAD comes first", x.set(0, 1, 2, v), BAD);
        }
        CHECK.due("hand of a cross of no marriage", x.set(1, 1, 2, 0), BAD);
        CHECK.due("hand of a cross of no side", x.set(0, 2, 2, 0), BAD);
        CHECK.due("it is 0 as before", x.has(0, 1, 2), 0);
        CHECK.due("age of a cross", x.set(0, 1, 1, 16), 0);
        CHECK.due("person of a cross", x.set(0, 1, 3, 99), 0);
        CHECK.due("born of a cross", x.set(0, 1, 4, 0), 1);
    }

    // ---- promises 11 to 14, their arguments

    private static void ofAndHasAtTheirBounds() {
        CrossOrName x = Check.landOf("parish 5;");
        for (int m = 0; m < 40; m++) {
            x.marry(0, m, m % 8, 1, 0);
        }
        CHECK.due("of the first", x.of(0, 1), 0);
        CHECK.due("of the last", x.of(39, 1), 39);
        CHECK.due("has the last", x.has(39, 1, 4), 1);
        CHECK.due("kind of the last", x.kind(39, 1), 1);
        CHECK.due("writer of the last", x.writer(39, 1), NONE);
        int[] wrong = {-1, 40, Integer.MIN_VALUE, Integer.MAX_VALUE};
        for (int m : wrong) {
            CHECK.due("of(" + m + ")", x.of(m, 0), BAD);
            CHECK.due("has(" + m + ")", x.has(m, 0, 0), BAD);
            CHECK.due("kind(" + m + ")", x.kind(m, 0), BAD);
            CHECK.due("writer(" + m + ")", x.writer(m, 0), BAD);
            CHECK.due("set(" + m + ")", x.set(m, 0, 0, 0), BAD);
        }
        int[] noSide = {-1, 2, Integer.MIN_VALUE, Integer.MAX_VALUE};
        for (int side : noSide) {
            CHECK.due("has, side " + side, x.has(5, side, 0), BAD);
            CHECK.due("kind, side " + side, x.kind(5, side), BAD);
            CHECK.due("writer, side " + side, x.writer(5, side), BAD);
            CHECK.due("set, side " + side, x.set(5, side, 0, 0), BAD);
        }
        int[] noWhat = {-1, 3, 5, Integer.MIN_VALUE, Integer.MAX_VALUE};
        for (int what : noWhat) {
            CHECK.due("of, what " + what, x.of(5, what), BAD);
            CHECK.due("has, what " + what, x.has(5, 0, what), what == 3 ? 0 : BAD);
        }
        x.tear(39);
        CHECK.due("of one that has gone", x.of(39, 0), BAD);
        CHECK.due("has of one that has gone", x.has(39, 0, 0), BAD);
        CHECK.due("kind of one that has gone", x.kind(39, 0), BAD);
        CHECK.due("writer of one that has gone", x.writer(39, 0), BAD);
    }

    // ---- kinds

    private static CrossOrName name(String land, int parish, int year, int hand) {
        CrossOrName x = Check.landOf(land);
        x.marry(parish, year, 0, 1, 0);
        x.set(0, 0, 2, hand);
        return x;
    }

    private static void writtenAtTheBoundsOfYears() {
        String land = "parish 5;parish 6;clerk 0 10 20 15 0;";
        int[][] want = {{9, 3}, {10, 5}, {15, 5}, {20, 5}, {21, 3}, {0, 3}, {89, 3}};
        for (int[] w : want) {
            CrossOrName x = name(land, 0, w[0], 15);
            CHECK.due("year " + w[0], x.kind(0, 0), w[1]);
            CHECK.due("writer in year " + w[0], x.writer(0, 0), w[1] == 5 ? 0 : NONE);
            CHECK.due("in another parish", name(land, 1, w[0], 15).kind(0, 0), 3);
        }
        CHECK.due("all years, the first", name("parish 5;clerk 0 0 89 15 0;", 0, 0, 15).kind(0, 0), 5);
        CHECK.due("all years, the last", name("parish 5;clerk 0 0 89 15 0;", 0, 89, 15).kind(0, 0), 5);
        CHECK.due("one year", name("parish 5;clerk 0 40 40 15 0;", 0, 40, 15).kind(0, 0), 5);
        CHECK.due("the year ahead", name("parish 5;clerk 0 40 40 15 0;", 0, 39, 15).kind(0, 0), 3);
        CHECK.due("the year behind", name("parish 5;clerk 0 40 40 15 0;", 0, 41, 15).kind(0, 0), 3);
    }

    private static void writtenAtTheBoundsOfHands() {
        int[] bits = {0, 1, 3, 7, 15, 31, 63, 127, 255};
        for (int far = 0; far <= 4; far++) {
            for (int apart = 0; apart <= 8; apart++) {
                CrossOrName x = name("parish 5;clerk 0 0 89 0 " + far + ";", 0, 5, bits[apart]);
                CHECK.due(apart + " apart of " + far, x.kind(0, 0), apart <= far ? 5 : 3);
                CrossOrName y = name("parish 5;clerk 0 0 89 255 " + far + ";", 0, 5, 255 - bits[apart]);
                CHECK.due(apart + " apart of " + far + ", from 255", y.writer(0, 0), apart <= far ? 0 : NONE);
            }
        }
    }

    private static void writtenByTheFirst() {
        CrossOrName x = Check.landOf("parish 5;clerk 0 10 20 15 1;clerk 0 20 30 15 4;clerk 0 0 89 15 4;");
        int[] years = {9, 10, 20, 21, 30, 31};
        int[] writers = {2, 0, 0, 1, 1, 2};
        for (int i = 0; i < years.length; i++) {
            x.marry(0, years[i], 0, 1, 1);
            x.set(i, 0, 2, 15);
            x.set(i, 1, 2, 12);
            CHECK.due("writer in year " + years[i], x.writer(i, 0), writers[i]);
        }
        CHECK.due("2 apart, too far for the first", x.writer(1, 1), 2);
        CHECK.due("2 apart, too far for the first, in year 20", x.writer(2, 1), 1);
        CHECK.due("by clerk 0", x.clerk(0, 5), 2);
        CHECK.due("by clerk 1", x.clerk(1, 5), 5);
        CHECK.due("by clerk 2", x.clerk(2, 5), 5);
    }

    private static CrossOrName twoNames(String land, int year, int laterYear, int hand, int other) {
        CrossOrName x = Check.landOf(land);
        x.marry(0, year, 0, 1, 0);
        x.marry(0, laterYear, 0, 0, 1);
        x.set(0, 0, 2, hand);
        x.set(1, 1, 2, other);
        x.set(0, 0, 3, 99);
        x.set(1, 1, 3, 99);
        return x;
    }

    private static void drawnAtTheBoundOfPicture() {
        int[] bits = {0, 1, 3, 7, 15, 31, 63, 127, 255};
        for (int picture = 0; picture <= 8; picture++) {
            for (int apart = 0; apart <= 8; apart++) {
                CrossOrName x = twoNames("parish 5;picture " + picture + ";", 7, 7, 255, 255 - bits[apart]);
                CHECK.due(apart + " apart of " + picture, x.kind(0, 0), apart <= picture ? 4 : 3);
                CHECK.due(apart + " apart of " + picture + ", the other", x.kind(1, 1), apart <= picture ? 4 : 3);
            }
        }
        CHECK.due("picture is 1, if it is not told", twoNames("parish 5;", 7, 8, 0, 1).kind(0, 0), 4);
        CHECK.due("2 apart then", twoNames("parish 5;", 7, 8, 0, 3).kind(0, 0), 3);
    }

    private static void drawnNeedsAPerson() {
        CrossOrName x = twoNames("parish 5;", 7, 8, 9, 9);
        x.set(1, 1, 3, 98);
        CHECK.due("two persons", x.kind(0, 0), 3);
        x.set(0, 0, 3, 0);
        x.set(1, 1, 3, 0);
        CHECK.due("nobody knows", x.kind(0, 0), 3);
        x.set(0, 0, 3, 1);
        CHECK.due("person 1 alone", x.kind(0, 0), 3);
        x.set(1, 1, 3, 1);
        CHECK.due("person 1 twice", x.kind(0, 0), 4);
        x.set(1, 1, 0, 0);
        CHECK.due("the other one is a cross", x.kind(0, 0), 3);
        CHECK.due("which is spared", x.kind(1, 1), 2);
    }

    private static void drawnNeedsAnotherMarriage() {
        CrossOrName x = Check.landOf("parish 5;");
        x.marry(0, 7, 0, 1, 1);
        x.set(0, 0, 3, 5);
        x.set(0, 1, 3, 5);
        CHECK.due("both of one marriage", x.kind(0, 0), 3);
        CHECK.due("the bride", x.kind(0, 1), 3);
        x.marry(0, 7, 0, 1, 0);
        x.set(1, 0, 3, 5);
        CHECK.due("in another marriage of that year", x.kind(0, 0), 4);
        CHECK.due("that one", x.kind(1, 0), 4);
        x.set(0, 1, 2, 7);
        CHECK.due("a far one in the same marriage", x.kind(0, 0), 3);
        CHECK.due("a far one in another marriage", x.kind(1, 0), 3);
    }

    private static void drawnLeavesOutWritten() {
        CrossOrName x = twoNames("parish 5;clerk 0 50 60 240 0;", 7, 55, 240, 240);
        CHECK.due("the second is written", x.kind(1, 1), 5);
        CHECK.due("so the first has no other", x.kind(0, 0), 3);
        x.marry(0, 8, 0, 1, 0);
        x.set(2, 0, 3, 99);
        x.set(2, 0, 2, 241);
        CHECK.due("one that is not written", x.kind(0, 0), 4);
        CHECK.due("the written one is written still", x.kind(1, 1), 5);
        x.set(2, 0, 2, 243);
        CHECK.due("too far from it", x.kind(0, 0), 3);
        x.set(2, 0, 2, 240);
        x.set(1, 1, 2, 0);
        CHECK.due("no more written, and far", x.kind(1, 1), 3);
        CHECK.due("far from all others", x.kind(0, 0), 3);
    }

    private static void sparedByAnEarlierYearAlone() {
        int[][] want = {{0, 1, 2}, {88, 89, 2}, {0, 89, 2}, {40, 40, 1}, {41, 40, 1}, {89, 0, 1}};
        for (int[] w : want) {
            CrossOrName x = Check.landOf("parish 5;parish 6;");
            x.marry(0, w[0], 0, 1, 0);
            x.marry(1, w[1], 0, 1, 0);
            x.set(0, 0, 3, 99);
            x.set(1, 1, 3, 99);
            CHECK.due("a name in " + w[0] + ", a cross in " + w[1], x.kind(1, 1), w[2]);
            CHECK.due("its able", x.many(0, 1), w[2] == 2 ? 3 : 2);
        }
        CrossOrName x = Check.landOf("parish 5;");
        x.marry(0, 5, 0, 1, 0);
        x.set(0, 0, 3, 7);
        x.set(0, 1, 3, 7);
        CHECK.due("in the same marriage", x.kind(0, 1), 1);
        x.set(0, 0, 3, 0);
        x.set(0, 1, 3, 0);
        x.marry(0, 6, 0, 0, 0);
        CHECK.due("nobody knows", x.kind(1, 0), 1);
    }

    private static void sparedByNamedAlone() {
        CrossOrName x = twoNames("parish 5;clerk 0 50 60 240 0;", 7, 8, 9, 9);
        x.marry(0, 70, 0, 0, 1);
        x.set(2, 0, 3, 99);
        CHECK.due("drawn names spare nobody", x.kind(2, 0), 1);
        x.set(1, 1, 2, 90);
        CHECK.due("named ones do", x.kind(2, 0), 2);
        x.tear(1);
        CHECK.due("a single named one does", x.kind(1, 0), 2);
        x.tear(0);
        CHECK.due("none", x.kind(0, 0), 1);
        x.marry(0, 50, 0, 1, 0);
        x.set(1, 0, 3, 99);
        CHECK.due("a named one again", x.kind(0, 0), 2);
        x.set(1, 0, 2, 240);
        CHECK.due("a written name spares nobody", x.kind(0, 0), 1);
    }

    private static void theLastKindThatFits() {
        // near to another of that person, and written: written
        CrossOrName x = twoNames("parish 5;clerk 0 0 89 9 0;", 7, 8, 9, 9);
        CHECK.due("written, not drawn", x.kind(0, 0), 5);
        CHECK.due("able", x.many(0, 1), 0);
        CHECK.due("no drawn ones", x.many(0, 14), 0);
        CHECK.due("written ones", x.many(0, 15), 2);
    }

    private static void kindsFollowEveryChange() {
        CrossOrName x = twoNames("parish 5;", 7, 8, 9, 9);
        CHECK.due("drawn", x.kind(0, 0), 4);
        x.keep(0);
        x.set(1, 1, 3, 0);
        CHECK.due("its person is not known", x.kind(0, 0), 3);
        x.back(0);
        CHECK.due("back: drawn", x.kind(0, 0), 4);
        x.tear(1);
        CHECK.due("the other has gone", x.kind(0, 0), 3);
        Check.tell(x, "parish 5;clerk 0 0 89 9 0;");
        x.back(0);
        CHECK.due("in a land with a clerk", x.kind(0, 0), 5);
        Check.tell(x, "parish 5;picture 0;");
        x.back(0);
        CHECK.due("in a land without", x.kind(0, 0), 4);
        x.sheet(0, 0, 5);
        x.lay(0, 3, 1);
        x.read(0, 0, 0, 1);
        CHECK.due("one that was read", x.kind(2, 0), 3);
        CHECK.due("its bride", x.kind(2, 1), 1);
    }

    private static void whatHasGoneMakesNoKind() {
        CrossOrName x = Check.landOf("parish 5;");
        x.marry(0, 9, 0, 0, 0);
        x.marry(0, 5, 0, 1, 0);
        x.set(0, 0, 3, 7);
        x.set(1, 0, 3, 7);
        CHECK.due("a name ahead", x.kind(0, 0), 2);
        x.tear(1);
        CHECK.due("the last one has gone", x.kind(0, 0), 1);
        x.set(0, 0, 0, 1);
        x.marry(0, 5, 0, 1, 0);
        x.set(1, 0, 3, 7);
        CHECK.due("drawn", x.kind(0, 0), 4);
        x.tear(1);
        CHECK.due("the last one has gone again", x.kind(0, 0), 3);
    }

    private static void kindsOfAFullBook() {
        CrossOrName x = Check.landOf("parish 5;clerk 0 79 79 0 0;");
        for (int m = 0; m < 40; m++) {
            x.marry(0, 40 + m, 0, m < 20 ? 0 : 1, 0);
            x.set(m, 0, 3, m + 1);
            x.set(m, 1, 3, m + 41);
        }
        CHECK.due("crosses of whom no name is known", x.many(0, 11), 60);
        CHECK.due("names of whom no other is known", x.many(0, 13), 19);
        CHECK.due("the last one is written", x.kind(39, 0), 5);
        CHECK.due("the last bride", x.kind(39, 1), 1);
        x.set(39, 1, 3, 39);
        CHECK.due("the last bride is spared", x.kind(39, 1), 2);
        x.set(39, 1, 0, 1);
        x.set(39, 1, 2, 128);
        CHECK.due("the last bride's name is drawn", x.kind(39, 1), 4);
        CHECK.due("with the one ahead of it", x.kind(38, 0), 4);
        CHECK.due("all marks", x.many(0, 0), 80);
        CHECK.due("able", x.many(0, 1), 18);
    }

    // ---- promises 15 and 16

    private static void apartAtItsBounds() {
        CrossOrName x = new CrossOrName();
        for (int bit = 0; bit < 8; bit++) {
            CHECK.due("bit " + bit, x.apart(0, 1 << bit), 1);
            CHECK.due("bit " + bit + " from 255", x.apart(255 ^ 1 << bit, 255), 1);
        }
        int[][] want = {{0, 0, 0}, {255, 255, 0}, {0, 255, 8}, {255, 0, 8}, {170, 85, 8}, {170, 15, 4}, {128, 127, 8}};
        for (int[] w : want) {
            CHECK.due("apart(" + w[0] + ", " + w[1] + ")", x.apart(w[0], w[1]), w[2]);
        }
        for (int v : new int[] {-1, 256, Integer.MIN_VALUE, Integer.MAX_VALUE}) {
            CHECK.due("apart(" + v + ", 0)", x.apart(v, 0), BAD);
            CHECK.due("apart(255, " + v + ")", x.apart(255, v), BAD);
            CHECK.due("apart(" + v + ", " + v + ")", x.apart(v, v), BAD);
        }
    }

    private static void tearAtItsBounds() {
        CrossOrName x = Check.landOf("parish 5;");
        CHECK.due("tear of none", x.tear(0), BAD);
        for (int m = 0; m < 40; m++) {
            x.marry(0, m, 0, 0, 0);
        }
        for (int m : new int[] {-1, 40, Integer.MIN_VALUE, Integer.MAX_VALUE}) {
            CHECK.due("tear(" + m + ")", x.tear(m), BAD);
        }
        CHECK.due("40 as before", x.count(0), 40);
        CHECK.due("tear(39)", x.tear(39), 39);
        CHECK.due("tear(39) again", x.tear(39), BAD);
        CHECK.due("the last is now", x.of(38, 1), 38);
        for (int left = 38; left >= 0; left--) {
            CHECK.due("tear(0)", x.tear(0), left);
        }
        CHECK.due("tear of none again", x.tear(0), BAD);
        CHECK.due("the first again", x.marry(0, 0, 0, 0, 0), 0);
    }

    private static void tearMovesAllUp() {
        CrossOrName x = Check.landOf("parish 5;parish 6;");
        for (int m = 0; m < 40; m++) {
            x.marry(m % 2, m, m % 8, 1, m % 2);
            x.set(m, 0, 3, m + 1);
        }
        x.set(39, 0, 1, 16 + 39);
        x.set(39, 0, 2, 200);
        x.set(39, 0, 4, 0);
        CHECK.due("tear(20)", x.tear(20), 39);
        for (int m = 0; m < 39; m++) {
            int was = m < 20 ? m : m + 1;
            CHECK.due("parish", x.of(m, 0), was % 2);
            CHECK.due("year", x.of(m, 1), was);
            CHECK.due("trade", x.of(m, 2), was % 8);
            CHECK.due("bride", x.has(m, 1, 0), was % 2);
            CHECK.due("person", x.has(m, 0, 3), was + 1);
        }
        CHECK.due("age of the last", x.has(38, 0, 1), 55);
        CHECK.due("hand of the last", x.has(38, 0, 2), 200);
        CHECK.due("born of the last", x.has(38, 0, 4), 0);
        CHECK.due("born of the one ahead", x.has(37, 0, 4), 1);
    }
}
