/** Promises 26 to 32: drawn parishes, reading, those who never married, changes. */
public final class LandSharesTest {
    private static final Check CHECK = new Check("LandSharesTest");

    public static void main(String[] args) {
        noParishes();
        span();
        next();
        enough();
        reading();
        unwed();
        parts();
        partsWithoutAGroup();
        worth();
        CHECK.finish();
    }

    private static void noParishes() {
        CrossOrName x = new CrossOrName();
        CHECK.due("span of no parishes", x.span(0, 0), -4);
        CHECK.due("span of one there is not", x.span(1, 0), -1);
        CHECK.due("span, wrong what", x.span(0, 4), -1);
        CHECK.due("next", x.next(0), -4);
        CHECK.due("next(1)", x.next(1), -1);
        CHECK.due("enough", x.enough(1, 1, 0), -4);
        CHECK.due("reading", x.reading(0, 0), -4);
        CHECK.due("unwed", x.unwed(0, 0), -4);
        CHECK.due("parts", x.parts(0, 0), -4);
        CHECK.due("worth", x.worth(0, 0, 0), -1000004);
    }

    /** Shares 1 by 2, 3 by 4, none known, 0 by 1, of 10, 20, 30, 20 marriages. */
    private static CrossOrName drawn() {
        CrossOrName x = Check.landOf("parish 10;parish 20;parish 30;parish 20;");
        x.marry(0, 0, 0, 1, 0);
        x.marry(1, 0, 0, 1, 1);
        x.marry(1, 0, 0, 1, 0);
        x.marry(3, 0, 0, 0, 0);
        return x;
    }

    private static void span() {
        CrossOrName x = drawn();
        long[][] want = {{0, 0, 1, 1, 1}, {1, 1, 16, 15, 16}, {2, 3, 16, 15, 16}, {3, 1, 4, 7, 8}, {11, 1, 4, 5, 8},
            {8, 0, 1, 3, 4}};
        for (long[] w : want) {
            int bits = (int) w[0];
            CHECK.fraction("least of " + bits, x.span(bits, 0), x.span(bits, 1), w[1], w[2]);
            CHECK.fraction("greatest of " + bits, x.span(bits, 2), x.span(bits, 3), w[3], w[4]);
        }
        CHECK.due("one without marks", x.span(4, 0), -1);
        CHECK.due("one there is not", x.span(16, 0), -1);
        CHECK.due("below 0", x.span(-1, 0), -1);
        CHECK.due("what 4", x.span(0, 4), -1);
        CHECK.due("what -1", x.span(0, -1), -1);
        x.choose(0, 15, 0, 89, 2, 255);
        CHECK.fraction("brides alone", x.span(2, 0), x.span(2, 1), 1, 8);
        x.choose(0, 13, 0, 89, 3, 255);
        CHECK.due("one that choice 0 leaves out", x.span(2, 0), -1);
    }

    private static void next() {
        CrossOrName x = drawn();
        CHECK.due("of several the least", x.next(0), 1);
        CHECK.due("then the other", x.next(2), 3);
        CHECK.due("then the smallest", x.next(10), 0);
        CHECK.due("then none", x.next(11), -4);
        x.choose(1, 0, 0, 89, 3, 255);
        CHECK.due("choice 1 is not asked", x.next(0), 1);
        x.choose(0, 9, 0, 89, 3, 255);
        CHECK.due("choice 0 is", x.next(0), 3);
        CHECK.due("one that it leaves out", x.next(2), -1);
        x.choose(0, 14, 0, 89, 3, 255);
        CHECK.due("the first one without marks", x.next(1), -1);
        x.choose(0, 15, 0, 89, 1, 255);
        CHECK.due("a single mark is enough", x.next(10), 0);
        CHECK.due("one without marks", x.next(4), -1);
        CHECK.due("one there is not", x.next(16), -1);
        CHECK.due("below 0", x.next(-1), -1);
    }

    private static void enough() {
        CrossOrName x = drawn();
        int[][] want = {{1, 1, 0, 0}, {1, 1, 1, 0}, {7, 8, 0, 1}, {7, 8, 1, 1}, {3, 4, 0, 1}, {3, 4, 1, 2}, {749, 999, 0, 2},
            {749, 999, 1, 3}, {1, 2, 0, 2}, {1, 2, 1, 10}, {3, 8, 0, 3}, {3, 8, 1, 11}, {374, 999, 0, -4}, {0, 1, 0, -4},
            {2, 1, 0, -1}, {-1, 1, 0, -1}, {0, 0, 0, -1}, {0, 1000, 0, -1}, {1, 1, 2, -1}, {1, 1, -1, -1}};
        for (int[] w : want) {
            CHECK.due("enough(" + w[0] + ", " + w[1] + ", " + w[2] + ")", x.enough(w[0], w[1], w[2]), w[3]);
        }
        x.choose(1, 0, 0, 89, 3, 255);
        CHECK.due("choice 1 is not asked", x.enough(3, 4, 1), 2);
        x.choose(0, 9, 0, 89, 3, 255);
        CHECK.due("choice 0 is", x.enough(3, 4, 1), 8);
        // of two that are enough the least bits, though others are greater
        CrossOrName y = Check.landOf("parish 5;parish 4;parish 9;parish 2;");
        for (int p = 0; p < 4; p++) {
            y.marry(p, 0, 0, 1, 1);
        }
        CHECK.due("9 of 20", y.enough(11, 20, 0), 1);
        CHECK.due("9 of 20, these", y.enough(11, 20, 1), 4);
        CHECK.due("10 of 20", y.enough(1, 2, 0), 2);
        CHECK.due("10 of 20, these", y.enough(1, 2, 1), 5);
        CHECK.due("all", y.enough(0, 1, 1), 15);
    }

    private static void reading() {
        CrossOrName x = Check.landOf("parish 5;tried cross 1 3;tried name 4 5;");
        CHECK.fraction("no marks", x.reading(0, 0), x.reading(0, 1), -4, -4);
        x.marry(0, 0, 0, 1, 0);
        CHECK.fraction("one of each", x.reading(0, 0), x.reading(0, 1), 17, 30);
        x.marry(0, 0, 0, 0, 0);
        CHECK.fraction("three crosses", x.reading(0, 0), x.reading(0, 1), 9, 20);
        x.choose(1, 1, 0, 89, 2, 255);
        CHECK.fraction("crosses alone", x.reading(1, 0), x.reading(1, 1), 1, 3);
        CHECK.due("reading(2, 0)", x.reading(2, 0), -1);
        CHECK.due("reading(0, 2)", x.reading(0, 2), -1);
        CHECK.due("reading(0, -1)", x.reading(0, -1), -1);
        // as at first: names could, crosses could not; one who was spared put a cross all the same
        CrossOrName y = Check.landOf("parish 5;");
        y.marry(0, 0, 0, 1, 0);
        y.marry(0, 9, 0, 0, 0);
        y.set(0, 0, 3, 1);
        y.set(1, 0, 3, 1);
        CHECK.fraction("by marks, not by kinds", y.reading(0, 0), y.reading(0, 1), 1, 4);
    }

    private static void unwed() {
        CrossOrName x = Check.landOf("parish 5;never 6;");
        CHECK.fraction("no marks, least", x.unwed(0, 0), x.unwed(0, 1), 0, 1);
        CHECK.fraction("no marks, greatest", x.unwed(0, 2), x.unwed(0, 3), 1, 1);
        x.marry(0, 0, 0, 1, 0);
        x.marry(0, 0, 0, 1, 0);
        CHECK.fraction("least", x.unwed(0, 0), x.unwed(0, 1), 1, 5);
        CHECK.fraction("greatest", x.unwed(0, 2), x.unwed(0, 3), 4, 5);
        CHECK.due("unwed(0, 4)", x.unwed(0, 4), -1);
        CHECK.due("unwed(0, -1)", x.unwed(0, -1), -1);
        CHECK.due("unwed(2, 0)", x.unwed(2, 0), -1);
    }

    private static void expectParts(CrossOrName x, int groups, int[] want) {
        for (int what = 0; what < 6; what++) {
            CHECK.due("parts(" + groups + ", " + what + ")", x.parts(groups, what), want[what]);
        }
    }

    private static void parts() {
        CrossOrName x = Check.landOf("parish 5;parish 6;");
        // choice 0: parish 0 1 of 2, parish 1 0 of 2; choice 1: parish 0 4 of 4, parish 1 1 of 2
        x.marry(0, 0, 0, 1, 0);
        x.marry(1, 0, 0, 0, 0);
        x.marry(0, 50, 0, 1, 1);
        x.marry(0, 50, 0, 1, 1);
        x.marry(1, 50, 0, 0, 1);
        x.choose(0, 3, 0, 9, 3, 255);
        x.choose(1, 3, 10, 89, 3, 255);
        // more: (1/6 times 3/2 - 1/6 times 1/2) by 2; better: (1/2 times 7/6 + 1/2 times 5/6) by 2
        expectParts(x, 0, new int[] {1, 12, 1, 2, 7, 12});
        // one trade alone: no group is more
        expectParts(x, 1, new int[] {0, 1, 7, 12, 7, 12});
        // grooms 1 of 2 to 2 of 3, brides 0 of 2 to 3 of 3: halves both times
        expectParts(x, 2, new int[] {0, 1, 7, 12, 7, 12});
        CHECK.due("parts(-1, 0)", x.parts(-1, 0), -1);
        CHECK.due("parts(4, 0)", x.parts(4, 0), -1);
        CHECK.due("parts(0, 6)", x.parts(0, 6), -1);
        CHECK.due("parts(0, -1)", x.parts(0, -1), -1);
        x.choose(1, 0, 0, 89, 3, 255);
        expectParts(x, 0, new int[] {-4, -4, -4, -4, -4, -4});
        x.choose(1, 3, 0, 89, 3, 255);
        x.choose(0, 0, 0, 89, 3, 255);
        expectParts(x, 0, new int[] {-4, -4, -4, -4, -4, -4});
        // a single mark in each
        x.choose(0, 1, 0, 9, 2, 255);
        x.choose(1, 1, 0, 9, 1, 255);
        expectParts(x, 0, new int[] {0, 1, 1, 1, 1, 1});
    }

    private static void partsWithoutAGroup() {
        CrossOrName x = Check.landOf("parish 5;parish 6;");
        x.marry(0, 0, 0, 1, 0);
        x.marry(1, 50, 0, 0, 0);
        x.choose(0, 3, 0, 9, 3, 255);
        x.choose(1, 3, 10, 89, 3, 255);
        // each parish has its share both times, so all of the change is of groups that are more, or fewer
        expectParts(x, 0, new int[] {-1, 2, 0, 1, -1, 2});
        x.set(0, 1, 4, 0);
        // born there: 1 of 1 to 0 of 2; not: 0 of 1 to none. more: 1/2 times 1 by 2; better: -1 times 3/2 by 2
        expectParts(x, 3, new int[] {1, 4, -3, 4, -1, 2});
    }

    private static void worth() {
        CrossOrName x = Check.landOf("parish 5 mill 40;parish 6 mill 41 school 0;parish 7;");
        x.marry(0, 39, 0, 0, 0);
        x.marry(0, 40, 0, 1, 1);
        x.marry(1, 10, 0, 0, 1);
        CHECK.due("one of the four has none", x.worth(0, 40, 0), -1000004);
        x.marry(2, 89, 0, 1, 1);
        CHECK.fraction("1 less 1 by 2", x.worth(0, 40, 0), x.worth(0, 40, 1), 1, 2);
        CHECK.due("with the mill of 41 none is without ahead", x.worth(0, 41, 0), -1000004);
        x.marry(2, 0, 0, 1, 1);
        x.marry(1, 41, 0, 0, 0);
        // with: 0 of 2 from 41 on, 3 of 6 ahead of it; without: 2 of 2, 2 of 2
        CHECK.fraction("below 0", x.worth(0, 41, 0), x.worth(0, 41, 1), -1, 2);
        // school in parish 1: 0 of 2 less 1 of 2; elsewhere 2 of 2 less 4 of 6
        CHECK.fraction("of a school", x.worth(1, 41, 0), x.worth(1, 41, 1), -5, 6);
        CHECK.due("no parish with a mill has marks ahead of 0", x.worth(0, 0, 0), -1000004);
        CHECK.due("none is without a school ahead of 0", x.worth(1, 0, 0), -1000004);
        x.choose(0, 3, 0, 89, 3, 255);
        CHECK.due("by choice 0", x.worth(0, 41, 0), -1000004);
        CHECK.due("kind 2", x.worth(2, 0, 0), -1000000);
        CHECK.due("kind -1", x.worth(-1, 0, 0), -1000000);
        CHECK.due("year 90", x.worth(0, 90, 0), -1000000);
        CHECK.due("year -1", x.worth(0, -1, 0), -1000000);
        CHECK.due("what 2", x.worth(0, 0, 2), -1000000);
    }
}
