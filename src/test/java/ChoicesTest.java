/** Promises 17 to 25: choices, shares, pairs, years pushed back. */
public final class ChoicesTest {
    private static final Check CHECK = new Check("ChoicesTest");

    public static void main(String[] args) {
        choose();
        many();
        share();
        best();
        pairs();
        spared();
        learntWithAge();
        learntWithoutAge();
        bounds();
        tens();
        CHECK.finish();
    }

    private static CrossOrName four() {
        CrossOrName x = Check.landOf("parish 5;parish 6;");
        x.marry(0, 10, 0, 1, 0);
        x.marry(0, 20, 7, 1, 1);
        x.marry(1, 30, 0, 0, 0);
        x.marry(1, 89, 3, 0, 1);
        return x;
    }

    private static void choose() {
        CrossOrName x = four();
        CHECK.due("all", x.choose(0, 3, 0, 89, 3, 255), 8);
        CHECK.due("parish 1", x.choose(0, 2, 0, 89, 3, 255), 4);
        CHECK.due("years 10 to 20", x.choose(0, 3, 10, 20, 3, 255), 4);
        CHECK.due("years 11 to 29", x.choose(0, 3, 11, 29, 3, 255), 2);
        CHECK.due("one year", x.choose(0, 3, 89, 89, 3, 255), 2);
        CHECK.due("grooms", x.choose(0, 3, 0, 89, 1, 255), 4);
        CHECK.due("of them crosses", x.many(0, 2), 2);
        CHECK.due("brides of trade 0", x.choose(0, 3, 0, 89, 2, 1), 2);
        CHECK.due("trade 7", x.choose(0, 3, 0, 89, 3, 128), 2);
        CHECK.due("none", x.choose(1, 0, 0, 0, 0, 0), 0);
        int[][] wrong = {{-1, 3, 0, 89, 3, 255}, {2, 3, 0, 89, 3, 255}, {0, 4, 0, 89, 3, 255}, {0, -1, 0, 89, 3, 255},
            {0, 3, -1, 89, 3, 255}, {0, 3, 0, 90, 3, 255}, {0, 3, 9, 8, 3, 255}, {0, 3, 0, 89, 4, 255},
            {0, 3, 0, 89, -1, 255}, {0, 3, 0, 89, 3, 256}, {0, 3, 0, 89, 3, -1}};
        for (int[] w : wrong) {
            CHECK.due("wrong choose", x.choose(w[0], w[1], w[2], w[3], w[4], w[5]), -1);
        }
        CHECK.due("choice 0 as it was", x.many(0, 0), 2);
        CHECK.due("choice 1 as it was", x.many(1, 0), 0);
    }

    private static void many() {
        CrossOrName x = Check.landOf("parish 5;clerk 0 50 60 240 0;");
        x.marry(0, 10, 0, 1, 0);
        x.marry(0, 20, 0, 0, 1);
        x.marry(0, 30, 0, 1, 1);
        x.marry(0, 55, 0, 1, 0);
        x.set(0, 0, 3, 1);
        x.set(1, 0, 3, 1);
        x.set(1, 1, 3, 2);
        x.set(2, 0, 3, 2);
        x.set(3, 0, 2, 240);
        int[][] want = {{0, 8}, {1, 3}, {2, 3}, {11, 2}, {12, 1}, {13, 2}, {14, 2}, {15, 1}, {3, -1}, {10, -1},
            {16, -1}, {-1, -1}};
        for (int[] w : want) {
            CHECK.due("many(0, " + w[0] + ")", x.many(0, w[0]), w[1]);
        }
        CHECK.due("many(2, 0)", x.many(2, 0), -1);
        CHECK.due("many(-1, 0)", x.many(-1, 0), -1);
    }

    private static void share() {
        CrossOrName x = four();
        CHECK.fraction("share", x.share(0, 0), x.share(0, 1), 1, 2);
        x.choose(1, 2, 30, 30, 3, 255);
        CHECK.fraction("share 0", x.share(1, 0), x.share(1, 1), 0, 1);
        x.choose(1, 1, 0, 89, 3, 255);
        CHECK.fraction("share 3 by 4", x.share(1, 0), x.share(1, 1), 3, 4);
        x.choose(1, 0, 0, 89, 3, 255);
        CHECK.fraction("share of none", x.share(1, 0), x.share(1, 1), -4, -4);
        CHECK.due("share(0, 2)", x.share(0, 2), -1);
        CHECK.due("share(1, -1)", x.share(1, -1), -1);
        CHECK.due("share(2, 0)", x.share(2, 0), -1);
    }

    private static void best() {
        CrossOrName x = four();
        x.set(1, 1, 4, 0);
        int[][] want = {{0, 1, 0, 0}, {0, 1, 1, 4}, {0, 1, 2, 3}, {1, 1, 0, 7}, {1, 3, 0, 0}, {1, 3, 1, 4}, {1, 3, 2, 1},
            {2, 1, 0, 0}, {2, 4, 1, 4}, {3, 1, 0, 0}, {3, 2, 0, 1}, {3, 2, 2, 3}, {3, 8, 0, -4}, {0, 99, 0, -4},
            {0, 0, 0, -1}, {0, 100, 0, -1}, {-1, 1, 0, -1}, {4, 1, 0, -1}, {0, 1, 3, -1}, {0, 1, -1, -1}};
        for (int[] w : want) {
            CHECK.due("best(0, " + w[0] + ", " + w[1] + ", " + w[2] + ")", x.best(0, w[0], w[1], w[2]), w[3]);
        }
        CHECK.due("best(2, ..)", x.best(2, 0, 1, 0), -1);
        // 7 of 10 is more than 2 of 3, though it has more crosses, too
        CrossOrName y = Check.landOf("parish 5;parish 6;");
        for (int m = 0; m < 5; m++) {
            y.marry(1, 0, m, 1, m < 2 ? 1 : 0);
        }
        y.marry(0, 0, 0, 1, 0);
        y.marry(0, 0, 0, 1, 0);
        y.marry(0, 0, 0, 1, 1);
        CHECK.due("7 of 10 against 4 of 6", y.best(0, 0, 1, 0), 1);
        y.set(7, 1, 0, 0);
        y.set(6, 1, 0, 1);
        y.set(5, 1, 0, 1);
        CHECK.due("7 of 10 against 5 of 6", y.best(0, 0, 1, 0), 0);
        x.choose(1, 2, 30, 30, 3, 255);
        CHECK.due("a share of 0 is one", x.best(1, 0, 1, 0), 1);
        CHECK.due("able of it", x.best(1, 0, 1, 2), 0);
    }

    private static void pairs() {
        CrossOrName x = four();
        int[] want = {1, 1, 1, 1};
        for (int what = 0; what < 4; what++) {
            CHECK.due("pairs(0, " + what + ")", x.pairs(0, what), want[what]);
        }
        x.marry(0, 1, 0, 1, 0);
        x.choose(0, 1, 0, 89, 3, 255);
        int[] inParish = {0, 0, 2, 1};
        for (int what = 0; what < 4; what++) {
            CHECK.due("pairs of parish 0, " + what, x.pairs(0, what), inParish[what]);
        }
        x.choose(0, 3, 0, 89, 2, 255);
        CHECK.due("brides alone are no pairs", x.pairs(0, 2), 0);
        x.choose(0, 3, 0, 89, 1, 255);
        CHECK.due("grooms alone are no pairs", x.pairs(0, 2), 0);
        CHECK.due("pairs(0, 4)", x.pairs(0, 4), -1);
        CHECK.due("pairs(0, -1)", x.pairs(0, -1), -1);
        CHECK.due("pairs(2, 0)", x.pairs(2, 0), -1);
    }

    private static void spared() {
        CrossOrName x = Check.landOf("parish 5;");
        x.marry(0, 0, 0, 0, 0);
        CHECK.fraction("no groom put a name", x.spared(0, 0), x.spared(0, 1), -4, -4);
        x.marry(0, 0, 0, 0, 0);
        x.marry(0, 0, 0, 0, 1);
        x.marry(0, 0, 0, 1, 1);
        CHECK.fraction("2 less 3 times 0 by 1", x.spared(0, 0), x.spared(0, 1), 2, 1);
        x.marry(0, 0, 0, 1, 0);
        CHECK.fraction("2 less 3 times 1 by 2", x.spared(0, 0), x.spared(0, 1), 1, 2);
        x.marry(0, 0, 0, 1, 0);
        CHECK.fraction("2 less 3 times 2 by 3", x.spared(0, 0), x.spared(0, 1), 0, 1);
        x.marry(0, 0, 0, 1, 0);
        CHECK.fraction("0 at least", x.spared(0, 0), x.spared(0, 1), 0, 1);
        CHECK.due("spared(0, 2)", x.spared(0, 2), -1);
        CHECK.due("spared(2, 0)", x.spared(2, 0), -1);
    }

    private static void learntWithAge() {
        CrossOrName x = Check.landOf("parish 5;learn 10;");
        x.marry(0, 0, 0, 1, 0);
        x.set(0, 0, 1, 60);
        x.set(0, 1, 1, 16);
        CHECK.due("-50 is in", x.learnt(0, -50, -50, 0), 1);
        CHECK.due("-50 is not perhaps in", x.learnt(0, -50, -50, 1), 0);
        CHECK.due("from -49 on", x.learnt(0, -49, 89, 0), 1);
        CHECK.due("until -51", x.learnt(0, -60, -51, 0), 0);
        CHECK.due("both", x.learnt(0, -50, -6, 0), 2);
        CHECK.due("able", x.learnt(0, -50, -6, 2), 1);
        CHECK.due("a -61", x.learnt(0, -61, 0, 0), -1);
        CHECK.due("b 90", x.learnt(0, 0, 90, 0), -1);
        CHECK.due("b below a", x.learnt(0, 1, 0, 0), -1);
        CHECK.due("what 4", x.learnt(0, 0, 0, 4), -1);
        CHECK.due("what -1", x.learnt(0, 0, 0, -1), -1);
        CHECK.due("choice 2", x.learnt(2, 0, 0, 0), -1);
    }

    private static void learntWithoutAge() {
        CrossOrName x = Check.landOf("parish 5;learn 10;ages 20 30;");
        x.marry(0, 50, 0, 1, 0);
        // by age 30 in year 30, by age 20 in year 40
        int[][] want = {{30, 40, 2, 0, 1, 0}, {31, 40, 0, 2, 0, 1}, {30, 39, 0, 2, 0, 1}, {0, 29, 0, 0, 0, 0},
            {41, 89, 0, 0, 0, 0}, {0, 30, 0, 2, 0, 1}, {40, 40, 0, 2, 0, 1}, {35, 36, 0, 2, 0, 1}, {-60, 89, 2, 0, 1, 0}};
        for (int[] w : want) {
            for (int what = 0; what < 4; what++) {
                CHECK.due("learnt(0, " + w[0] + ", " + w[1] + ", " + what + ")", x.learnt(0, w[0], w[1], what),
                        w[2 + what]);
            }
        }
    }

    private static void bounds() {
        CrossOrName x = Check.landOf("parish 5;learn 10;ages 20 30;");
        x.marry(0, 50, 0, 1, 0);
        x.marry(0, 50, 0, 1, 0);
        x.set(0, 0, 1, 25);
        x.set(0, 1, 1, 25);
        // in 35: one able surely, one not able surely, one able perhaps, one not able perhaps
        CHECK.fraction("least", x.bounds(0, 33, 36, 0), x.bounds(0, 33, 36, 1), 1, 3);
        CHECK.fraction("greatest", x.bounds(0, 33, 36, 2), x.bounds(0, 33, 36, 3), 2, 3);
        CHECK.fraction("all surely, least", x.bounds(0, 30, 40, 0), x.bounds(0, 30, 40, 1), 1, 2);
        CHECK.fraction("all surely, greatest", x.bounds(0, 30, 40, 2), x.bounds(0, 30, 40, 3), 1, 2);
        CHECK.fraction("none, least", x.bounds(0, 0, 9, 0), x.bounds(0, 0, 9, 1), -4, -4);
        CHECK.fraction("none, greatest", x.bounds(0, 0, 9, 2), x.bounds(0, 0, 9, 3), -4, -4);
        x.choose(1, 1, 0, 89, 1, 255);
        CHECK.fraction("an able one perhaps, least", x.bounds(1, 40, 40, 0), x.bounds(1, 40, 40, 1), -4, -4);
        CHECK.fraction("an able one perhaps, greatest", x.bounds(1, 40, 40, 2), x.bounds(1, 40, 40, 3), 1, 1);
        x.choose(1, 1, 0, 89, 2, 255);
        CHECK.fraction("one not able perhaps, least", x.bounds(1, 40, 40, 0), x.bounds(1, 40, 40, 1), 0, 1);
        CHECK.fraction("one not able perhaps, greatest", x.bounds(1, 40, 40, 2), x.bounds(1, 40, 40, 3), -4, -4);
        CHECK.due("bounds(0, -61, 0, 0)", x.bounds(0, -61, 0, 0), -1);
        CHECK.due("bounds(0, 0, 90, 0)", x.bounds(0, 0, 90, 0), -1);
        CHECK.due("bounds(0, 5, 4, 0)", x.bounds(0, 5, 4, 0), -1);
        CHECK.due("bounds(0, 0, 0, 4)", x.bounds(0, 0, 0, 4), -1);
        CHECK.due("bounds(2, 0, 0, 0)", x.bounds(2, 0, 0, 0), -1);
    }

    private static void tens() {
        CrossOrName x = Check.landOf("parish 5;learn 20;");
        CHECK.due("none", x.tens(0, 0), -1004);
        CHECK.due("none, how many", x.tens(0, 1), -1004);
        x.marry(0, 89, 0, 1, 0);
        x.set(0, 0, 1, 16);
        CHECK.due("93 is in none of these", x.tens(0, 0), -1004);
        x.set(0, 0, 1, 20);
        CHECK.due("89 is in 80", x.tens(0, 0), 80);
        CHECK.due("one of them", x.tens(0, 1), 1);
        x.marry(0, 0, 0, 1, 0);
        x.set(1, 0, 1, 60);
        CHECK.due("of several the earliest", x.tens(0, 0), -40);
        x.set(1, 0, 1, 21);
        CHECK.due("-1 is in -10", x.tens(0, 0), -10);
        x.set(1, 0, 1, 20);
        CHECK.due("0 is in 0", x.tens(0, 0), 0);
        x.set(0, 1, 1, 29);
        CHECK.due("two in 80", x.tens(0, 0), 80);
        CHECK.due("two of them", x.tens(0, 1), 2);
        x.marry(0, 0, 0, 1, 1);
        x.marry(0, 0, 0, 1, 1);
        CHECK.due("those without age are not looked at", x.tens(0, 0), 80);
        x.choose(1, 1, 0, 88, 3, 255);
        CHECK.due("by choice 1", x.tens(1, 0), 0);
        CHECK.due("tens(2, 0)", x.tens(2, 0), -1000);
        CHECK.due("tens(0, 2)", x.tens(0, 2), -1000);
        CHECK.due("tens(0, -1)", x.tens(0, -1), -1000);
    }
}
