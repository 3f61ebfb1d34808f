/** The boundary cases of drawn parishes, reading, those who never married, and changes: promises 26 to 32. */
public final class LandSharesEdgesTest {
    private static final Check CHECK = new Check("LandSharesEdgesTest");
    private static final int BAD = CrossOrName.BAD, NONE = CrossOrName.NONE;
    private static final int SMALLEST = Integer.MIN_VALUE, LARGEST = Integer.MAX_VALUE;

    public static void main(String[] args) {
        spanOfNoneAndOfAll();
        spanOfOneParish();
        spanOfTwelve();
        spanWithoutMarks();
        spanWithoutParishes();
        spanOfLargeFractions();
        nextOfSeveralTheLeast();
        nextOfNone();
        nextArguments();
        enoughAtTheBoundOfTheSpan();
        enoughOfTwelve();
        enoughLeastBits();
        enoughOfNone();
        enoughArguments();
        readingAtItsBounds();
        readingOfNoMarks();
        unwedAtItsBounds();
        unwedOfNobody();
        partsOfNoMarks();
        partsOfNoChange();
        partsOfTheWholeChange();
        partsOfAMissingGroup();
        partsOfTheLastGroups();
        partsOfLargeFractions();
        worthAtTheYear();
        worthAtItsBounds();
        worthOfNone();
        worthArguments();
        CHECK.finish();
    }

    private static void span(CrossOrName x, int bits, long... want) {
        for (int what = 0; what < 4; what++) {
            CHECK.due("span(" + bits + ", " + what + ")", x.span(bits, what), want[what]);
        }
    }

    // ---- promise 26

    private static void spanOfNoneAndOfAll() {
        CrossOrName x = Check.landOf("parish 1;parish 2;");
        span(x, 0, 0, 1, 1, 1);
        x.marry(0, 0, 0, 1, 1);
        x.marry(1, 0, 0, 0, 0);
        span(x, 0, 0, 1, 1, 1);
        span(x, 1, 1, 3, 1, 1);
        span(x, 2, 0, 1, 1, 3);
        span(x, 3, 1, 3, 1, 3);
    }

    private static void spanOfOneParish() {
        CrossOrName x = Check.landOf("parish 1;");
        x.marry(0, 0, 0, 1, 1);
        span(x, 1, 1, 1, 1, 1);
        x.set(0, 1, 0, 0);
        span(x, 1, 1, 2, 1, 2);
        x.set(0, 0, 0, 0);
        span(x, 1, 0, 1, 0, 1);
        CHECK.due("the second of one", x.span(2, 0), BAD);
        CHECK.due("both of one", x.span(3, 0), BAD);
    }

    private static CrossOrName twelve() {
        CrossOrName x = Check.landOf("parish 999;".repeat(12));
        for (int p = 0; p < 12; p++) {
            x.marry(p, 0, 0, 1, 0);
        }
        return x;
    }

    private static void spanOfTwelve() {
        CrossOrName x = twelve();
        span(x, 0, 0, 1, 1, 1);
        span(x, 1, 1, 24, 23, 24);
        span(x, 2048, 1, 24, 23, 24);
        span(x, 4095, 1, 2, 1, 2);
        for (int bits : new int[] {4096, 8191, -1, SMALLEST, LARGEST, SMALLEST + 1}) {
            CHECK.due("span(" + bits + ")", x.span(bits, 0), BAD);
        }
        for (int what : new int[] {-1, 4, SMALLEST, LARGEST}) {
            CHECK.due("span, what " + what, x.span(1, what), BAD);
        }
    }

    private static void spanWithoutMarks() {
        CrossOrName x = twelve();
        x.tear(11);
        CHECK.due("none in the last", x.span(2048, 0), BAD);
        CHECK.due("none in the last, among others", x.span(4095, 2), BAD);
        span(x, 2047, 11, 24, 13, 24);
        x.choose(0, 4094, 0, 89, 3, 255);
        CHECK.due("the first is not in choice 0", x.span(1, 0), BAD);
        span(x, 2, 1, 24, 23, 24);
        x.choose(1, 0, 0, 0, 0, 0);
        span(x, 2, 1, 24, 23, 24);
        x.choose(0, 4095, 0, 89, 1, 255);
        span(x, 2, 1, 12, 1, 1);
        x.choose(0, 4095, 0, 89, 0, 255);
        CHECK.due("no marks at all", x.span(2, 0), BAD);
        span(x, 0, 0, 1, 1, 1);
    }

    private static void spanWithoutParishes() {
        CrossOrName x = Check.landOf("learn 5;");
        span(x, 0, NONE, NONE, NONE, NONE);
        CHECK.due("BAD comes first", x.span(1, 0), BAD);
        CHECK.due("BAD comes first, below 0", x.span(-1, 0), BAD);
        CHECK.due("BAD comes first, what", x.span(0, 4), BAD);
    }

    private static void spanOfLargeFractions() {
        CrossOrName x = Check.landOf("parish 999;parish 998;parish 997;parish 996;parish 995;parish 994;");
        int[] marks = {1, 2, 3, 5, 7, 11};
        int[] able = {1, 1, 2, 3, 4, 5};
        for (int p = 0; p < 6; p++) {
            for (int i = 0; i < marks[p]; i++) {
                x.marry(p, 0, 0, i < able[p] ? 1 : 0, 0);
            }
        }
        x.choose(0, 63, 0, 89, 1, 255);
        span(x, 63, 4366658, 6905745, 4366658, 6905745);
        span(x, 46, 365159, 986535, 694169, 986535);
    }

    // ---- promise 27

    private static void nextOfSeveralTheLeast() {
        CrossOrName x = twelve();
        int drawn = 0;
        for (int p = 0; p < 12; p++) {
            CHECK.due("next(" + drawn + ")", x.next(drawn), p);
            drawn |= 1 << p;
        }
        CHECK.due("none is left", x.next(4095), NONE);
        CHECK.due("the last is left", x.next(2047), 11);
        CrossOrName y = Check.landOf("parish 1;parish 999;parish 998;parish 999;");
        for (int p = 0; p < 4; p++) {
            y.marry(p, 0, 0, 0, 0);
        }
        CHECK.due("next(0)", y.next(0), 1);
        CHECK.due("next(2)", y.next(2), 3);
        CHECK.due("next(10)", y.next(10), 2);
        CHECK.due("next(14)", y.next(14), 0);
        y.tear(1);
        CHECK.due("the largest without marks", y.next(0), 3);
    }

    private static void nextOfNone() {
        CrossOrName x = Check.landOf("parish 5;parish 6;");
        CHECK.due("no marks", x.next(0), NONE);
        CHECK.due("no marks in what is drawn: BAD comes first", x.next(1), BAD);
        x.marry(0, 0, 0, 0, 0);
        CHECK.due("marks in one", x.next(0), 0);
        CHECK.due("none but it", x.next(1), NONE);
        CHECK.due("the other one is drawn", x.next(2), BAD);
        CHECK.due("both are drawn", x.next(3), BAD);
        x.choose(0, 3, 1, 89, 3, 255);
        CHECK.due("no marks of choice 0", x.next(0), NONE);
        CHECK.due("no parishes", new CrossOrName().next(0), NONE);
    }

    private static void nextArguments() {
        CrossOrName x = twelve();
        for (int bits : new int[] {4096, -1, SMALLEST, LARGEST, SMALLEST + 1}) {
            CHECK.due("next(" + bits + ")", x.next(bits), BAD);
        }
        x.tear(5);
        CHECK.due("one without marks", x.next(32), BAD);
        CHECK.due("one without marks, among others", x.next(63), BAD);
        CHECK.due("those ahead of it", x.next(31), 6);
    }

    // ---- promise 28

    private static void enough(CrossOrName x, int a, int b, int how, int bits) {
        CHECK.due("enough(" + a + ", " + b + ", 0)", x.enough(a, b, 0), how);
        CHECK.due("enough(" + a + ", " + b + ", 1)", x.enough(a, b, 1), bits);
    }

    private static void enoughAtTheBoundOfTheSpan() {
        CrossOrName x = Check.landOf("parish 1;parish 2;");
        x.marry(0, 0, 0, 1, 0);
        x.marry(1, 0, 0, 1, 0);
        enough(x, 1, 1, 0, 0);
        enough(x, 999, 999, 0, 0);
        enough(x, 998, 999, 1, 1);
        enough(x, 2, 3, 1, 1);
        enough(x, 666, 999, 1, 1);
        enough(x, 665, 999, 1, 2);
        enough(x, 1, 3, 1, 2);
        enough(x, 333, 999, 1, 2);
        enough(x, 332, 999, 2, 3);
        enough(x, 1, 999, 2, 3);
        enough(x, 0, 1, 2, 3);
        enough(x, 0, 999, 2, 3);
    }

    private static void enoughOfTwelve() {
        CrossOrName x = twelve();
        enough(x, 0, 1, 12, 4095);
        enough(x, 82, 999, 12, 4095);
        enough(x, 1, 12, 11, 2047);
        enough(x, 84, 999, 11, 2047);
        enough(x, 1, 2, 6, 63);
        enough(x, 499, 999, 7, 127);
        enough(x, 11, 12, 1, 1);
        enough(x, 1, 1, 0, 0);
        x.tear(0);
        enough(x, 1, 12, 11, 4094);
        enough(x, 0, 1, NONE, NONE);
        enough(x, 1, 2, 6, 126);
    }

    private static void enoughLeastBits() {
        // of those that are fewest, the least bits, not the largest parishes
        CrossOrName x = Check.landOf("parish 4;parish 3;parish 3;parish 6;parish 4;");
        for (int p = 0; p < 5; p++) {
            x.marry(p, 0, 0, 1, 0);
        }
        // 20 in all: 7 are to be drawn
        enough(x, 13, 20, 2, 3);
        // 8: 4 and 6, 3 and 6, 4 and 4
        enough(x, 12, 20, 2, 9);
        enough(x, 14, 20, 1, 8);
        // 10: 4, 3, 3 are three; 4 and 6 are two
        enough(x, 10, 20, 2, 9);
        enough(x, 7, 20, 3, 11);
        x.tear(0);
        enough(x, 10, 20, 2, 24);
    }

    private static void enoughOfNone() {
        CrossOrName x = Check.landOf("parish 1;parish 2;");
        enough(x, 1, 1, 0, 0);
        enough(x, 998, 999, NONE, NONE);
        x.marry(1, 0, 0, 0, 0);
        enough(x, 1, 3, 1, 2);
        enough(x, 332, 999, NONE, NONE);
        x.choose(0, 1, 0, 89, 3, 255);
        enough(x, 1, 3, NONE, NONE);
        enough(new CrossOrName(), 1, 1, NONE, NONE);
        CHECK.due("BAD comes first", x.enough(1, 3, 2), BAD);
        CHECK.due("BAD comes first without parishes", new CrossOrName().enough(2, 1, 0), BAD);
    }

    private static void enoughArguments() {
        CrossOrName x = twelve();
        int[][] wrong = {{-1, 1}, {2, 1}, {1000, 999}, {0, 0}, {0, -1}, {0, 1000}, {1000, 1000}, {-1, -1}, {SMALLEST, 1},
            {LARGEST, 1}, {0, SMALLEST}, {0, LARGEST}, {SMALLEST, SMALLEST}, {LARGEST, LARGEST}, {1, 0}};
        for (int[] w : wrong) {
            enough(x, w[0], w[1], BAD, BAD);
        }
        for (int what : new int[] {-1, 2, SMALLEST, LARGEST}) {
            CHECK.due("enough, what " + what, x.enough(1, 1, what), BAD);
        }
    }

    // ---- promises 29 and 30

    private static CrossOrName book(String land, int marriages, int names) {
        CrossOrName x = Check.landOf("parish 5;" + land);
        for (int m = 0; m < marriages; m++) {
            x.marry(0, 0, 0, 2 * m < names ? 1 : 0, 2 * m + 1 < names ? 1 : 0);
        }
        return x;
    }

    private static void reading(String land, int marriages, int names, long top, long bottom) {
        CrossOrName x = book(land, marriages, names);
        CHECK.fraction("reading of " + names + " by " + 2 * marriages + ", " + land, x.reading(0, 0), x.reading(0, 1), top,
                bottom);
    }

    private static void readingAtItsBounds() {
        reading("", 40, 80, 1, 1);
        reading("", 40, 0, 0, 1);
        reading("", 40, 79, 79, 80);
        reading("", 1, 1, 1, 2);
        reading("tried cross 0 999;tried name 0 999;", 40, 40, 0, 1);
        reading("tried cross 999 999;tried name 999 999;", 40, 40, 1, 1);
        reading("tried cross 1 1;tried name 0 1;", 40, 79, 1, 80);
        reading("tried cross 1 1;", 40, 0, 1, 1);
        // 1 by 997 of one, 990 by 991 of 79, by 80
        reading("tried cross 1 997;tried name 990 991;", 40, 79, 77976361, 79042160);
        reading("tried cross 1 997;", 40, 0, 1, 997);
    }

    private static void readingOfNoMarks() {
        CrossOrName x = book("tried cross 1 2;", 0, 0);
        CHECK.fraction("no marks", x.reading(0, 0), x.reading(0, 1), NONE, NONE);
        for (int v : new int[] {-1, 2, SMALLEST, LARGEST}) {
            CHECK.due("BAD comes first", x.reading(0, v), BAD);
            CHECK.due("reading(" + v + ", 0)", x.reading(v, 0), BAD);
        }
        x.marry(0, 0, 0, 1, 0);
        x.choose(0, 1, 1, 89, 3, 255);
        CHECK.due("none in the choice", x.reading(0, 0), NONE);
        CHECK.due("choice 1 has some", x.reading(1, 0), 3);
    }

    private static void unwed(String land, int marriages, int names, int... want) {
        CrossOrName x = book(land, marriages, names);
        for (int what = 0; what < 4; what++) {
            CHECK.due("unwed(0, " + what + ") of " + names + ", " + land, x.unwed(0, what), want[what]);
        }
    }

    private static void unwedAtItsBounds() {
        unwed("never 999;", 40, 80, 80, 1079, 1, 1);
        unwed("never 999;", 40, 0, 0, 1, 999, 1079);
        unwed("never 999;", 0, 0, 0, 1, 1, 1);
        unwed("never 1;", 0, 0, 0, 1, 1, 1);
        unwed("never 1;", 40, 79, 79, 81, 80, 81);
        unwed("never 0;", 40, 79, 79, 80, 79, 80);
        unwed("", 1, 1, 1, 2, 1, 2);
        unwed("", 1, 0, 0, 1, 0, 1);
        unwed("", 1, 2, 1, 1, 1, 1);
    }

    private static void unwedOfNobody() {
        unwed("", 0, 0, NONE, NONE, NONE, NONE);
        unwed("never 0;", 0, 0, NONE, NONE, NONE, NONE);
        CrossOrName x = book("", 1, 1);
        x.choose(0, 0, 0, 89, 3, 255);
        CHECK.due("nobody in the choice", x.unwed(0, 0), NONE);
        for (int v : new int[] {-1, 4, SMALLEST, LARGEST}) {
            CHECK.due("BAD comes first", x.unwed(0, v), BAD);
            CHECK.due("unwed(1, " + v + ")", x.unwed(1, v), BAD);
            CHECK.due("unwed(" + v + ", 0)", x.unwed(v, 0), BAD);
        }
        CHECK.due("unwed(2, 0)", x.unwed(2, 0), BAD);
    }

    // ---- promise 31

    private static void parts(CrossOrName x, int groups, long... want) {
        for (int what = 0; what < 6; what++) {
            CHECK.due("parts(" + groups + ", " + what + ")", x.parts(groups, what), want[what]);
        }
    }

    private static void partsOfNoMarks() {
        CrossOrName x = book("", 1, 1);
        int[][] empty = {{0, 1}, {1, 0}, {0, 0}};
        for (int[] e : empty) {
            x.choose(0, e[0], 0, 89, 3, 255);
            x.choose(1, e[1], 0, 89, 3, 255);
            for (int groups = 0; groups <= 3; groups++) {
                parts(x, groups, NONE, NONE, NONE, NONE, NONE, NONE);
                CHECK.due("BAD comes first", x.parts(groups, 6), BAD);
                CHECK.due("BAD comes first, below 0", x.parts(groups, -1), BAD);
            }
        }
        for (int v : new int[] {-1, 4, SMALLEST, LARGEST}) {
            CHECK.due("groups " + v, x.parts(v, 0), BAD);
        }
        for (int v : new int[] {-1, 6, SMALLEST, LARGEST}) {
            CHECK.due("what " + v, x.parts(0, v), BAD);
        }
    }

    private static void partsOfNoChange() {
        CrossOrName x = book("", 40, 33);
        for (int groups = 0; groups <= 3; groups++) {
            parts(x, groups, 0, 1, 0, 1, 0, 1);
        }
    }

    private static void partsOfTheWholeChange() {
        // crosses alone, then names alone, and the other way round
        CrossOrName x = book("", 1, 0);
        x.marry(0, 50, 0, 1, 1);
        x.choose(0, 1, 0, 0, 3, 255);
        x.choose(1, 1, 50, 50, 3, 255);
        for (int groups = 0; groups <= 3; groups++) {
            parts(x, groups, 0, 1, 1, 1, 1, 1);
        }
        x.choose(0, 1, 50, 50, 3, 255);
        x.choose(1, 1, 0, 0, 3, 255);
        for (int groups = 0; groups <= 3; groups++) {
            parts(x, groups, 0, 1, -1, 1, -1, 1);
        }
    }

    private static void partsOfAMissingGroup() {
        CrossOrName x = Check.landOf("parish 5;parish 6;parish 7;");
        x.marry(0, 0, 0, 0, 0);
        x.marry(2, 50, 7, 1, 1);
        x.choose(0, 7, 0, 0, 3, 255);
        x.choose(1, 7, 50, 50, 3, 255);
        // no parish and no trade is in both, so each has one share alone; the second parish is in none
        parts(x, 0, 1, 1, 0, 1, 1, 1);
        parts(x, 1, 1, 1, 0, 1, 1, 1);
        parts(x, 2, 0, 1, 1, 1, 1, 1);
        // grooms alone, then brides alone
        x.choose(0, 7, 0, 89, 1, 255);
        x.choose(1, 7, 0, 89, 2, 255);
        parts(x, 2, 0, 1, 0, 1, 0, 1);
        x.set(1, 0, 0, 0);
        parts(x, 2, 1, 2, 0, 1, 1, 2);
    }

    private static void partsOfTheLastGroups() {
        CrossOrName x = Check.landOf("parish 5;".repeat(12));
        x.marry(11, 0, 7, 0, 0);
        x.marry(11, 50, 7, 1, 0);
        x.set(0, 1, 4, 0);
        x.set(1, 1, 4, 0);
        x.choose(0, 4095, 0, 0, 3, 255);
        x.choose(1, 4095, 50, 50, 3, 255);
        for (int groups = 0; groups <= 3; groups++) {
            parts(x, groups, 0, 1, 1, 2, 1, 2);
        }
        // born there: grooms; the groom of then is left out, so that "not born there" is all there was
        x.choose(0, 4095, 0, 0, 2, 255);
        parts(x, 3, 1, 2, 0, 1, 1, 2);
    }

    /** Denominators beyond an int; reckoned apart, by fractions of any size. */
    private static void partsOfLargeFractions() {
        CrossOrName x = Check.landOf("parish 5;parish 6;parish 7;");
        int[][] sizes = {{17, 19}, {13, 11}, {8, 7}};
        for (int p = 0; p < 3; p++) {
            for (int i = 0; i < Math.max(sizes[p][0], sizes[p][1]); i++) {
                int trade = i >= sizes[p][1] ? 0 : i >= sizes[p][0] ? 2 : 1;
                x.marry(p, 0, trade, i == 0 || p == 1 && i == 11 ? 1 : 0, 0);
            }
        }
        CHECK.due("choice 0", x.choose(0, 7, 0, 89, 1, 3), 38);
        CHECK.due("choice 1", x.choose(1, 7, 0, 89, 1, 6), 37);
        parts(x, 0, -16929153L, 3636737104L, -71014703L, 3636737104L, -17, 703);
    }

    // ---- promise 32

    private static void worthAtTheYear() {
        for (int kind = 0; kind <= 1; kind++) {
            CrossOrName x = Check.landOf("parish 5 " + (kind == 0 ? "mill" : "school") + " 40;parish 6;");
            x.marry(0, 39, 0, 0, 0);
            x.marry(0, 40, 0, 1, 0);
            x.marry(1, 39, 0, 0, 0);
            x.marry(1, 40, 0, 0, 0);
            CHECK.fraction("by its very year", x.worth(kind, 40, 0), x.worth(kind, 40, 1), 1, 2);
            CHECK.due("a year ahead it has none", x.worth(kind, 39, 0), -1000004);
            CHECK.due("a year behind none is from then on", x.worth(kind, 41, 0), -1000004);
            CHECK.due("of the other kind there is none", x.worth(1 - kind, 40, 0), -1000004);
            x.marry(0, 41, 0, 1, 1);
            x.marry(1, 41, 0, 0, 0);
            // 2 of 2 less 1 of 4
            CHECK.fraction("a year behind", x.worth(kind, 41, 0), x.worth(kind, 41, 1), 3, 4);
            // 3 of 4 less 0 of 2
            CHECK.fraction("by its year again", x.worth(kind, 40, 0), x.worth(kind, 40, 1), 3, 4);
        }
        CrossOrName y = Check.landOf("parish 5 mill 0 school 89;parish 6 mill 89;");
        for (int p = 0; p < 2; p++) {
            y.marry(p, 88, 0, 0, p);
            y.marry(p, 89, 0, 1, 0);
        }
        // with: 1 of 2 less 0 of 2; without: 1 of 2 less 1 of 2
        CHECK.fraction("year 89, a school", y.worth(1, 89, 0), y.worth(1, 89, 1), 1, 2);
        CHECK.due("year 89, all have a mill", y.worth(0, 89, 0), -1000004);
    }

    private static void worthAtItsBounds() {
        CrossOrName x = Check.landOf("parish 5 mill 1;parish 6;");
        int[][] pairs = {{0, 0, 0}, {0, 1, 1}, {1, 0, 1}, {1, 1, 0}};
        for (int[] p : pairs) {
            x.marry(p[0], p[1], 0, p[2], p[2]);
        }
        CHECK.fraction("the most", x.worth(0, 1, 0), x.worth(0, 1, 1), 2, 1);
        for (int m = 0; m < 4; m++) {
            x.set(m, 0, 0, 1 - pairs[m][2]);
            x.set(m, 1, 0, 1 - pairs[m][2]);
        }
        CHECK.fraction("the least", x.worth(0, 1, 0), x.worth(0, 1, 1), -2, 1);
        for (int m = 0; m < 4; m++) {
            x.set(m, 0, 0, 1);
        }
        CHECK.fraction("half of it", x.worth(0, 1, 0), x.worth(0, 1, 1), -1, 1);
        for (int m = 0; m < 4; m++) {
            x.set(m, 1, 0, 1);
        }
        CHECK.fraction("nothing", x.worth(0, 1, 0), x.worth(0, 1, 1), 0, 1);
    }

    private static void worthOfNone() {
        for (int left = 0; left < 4; left++) {
            CrossOrName x = Check.landOf("parish 5 school 10;parish 6 school 11;");
            for (int m = 0; m < 4; m++) {
                if (m != left) {
                    x.marry(m / 2, m % 2 == 0 ? 9 : 10, 0, 1, 1);
                }
            }
            CHECK.due("one of the four is left out", x.worth(1, 10, 0), -1000004);
            CHECK.due("the denominator, too", x.worth(1, 10, 1), -1000004);
            CHECK.due("BAD comes first", x.worth(1, 10, 2), -1000000);
            x.marry(left / 2, left % 2 == 0 ? 0 : 89, 0, 1, 1);
            CHECK.fraction("it is there", x.worth(1, 10, 0), x.worth(1, 10, 1), 0, 1);
            x.choose(0, 3, 0, 89, 3, 254);
            CHECK.due("not in choice 0", x.worth(1, 10, 0), -1000004);
        }
    }

    private static void worthArguments() {
        CrossOrName x = Check.landOf("parish 5 school 10;");
        for (int v : new int[] {-1, 2, SMALLEST, LARGEST}) {
            CHECK.due("kind " + v, x.worth(v, 10, 0), -1000000);
            CHECK.due("what " + v, x.worth(0, 10, v), -1000000);
        }
        for (int v : new int[] {-1, 90, SMALLEST, LARGEST}) {
            CHECK.due("year " + v, x.worth(0, v, 0), -1000000);
        }
        CHECK.due("year 0", x.worth(0, 0, 0), -1000004);
        CHECK.due("year 89", x.worth(1, 89, 1), -1000004);
    }
}
