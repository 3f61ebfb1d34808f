/** The boundary cases of choices and of what is pushed back by ages: promises 17 to 25. */
public final class ChoicesEdgesTest {
    private static final Check CHECK = new Check("ChoicesEdgesTest");
    private static final int BAD = CrossOrName.BAD, NONE = CrossOrName.NONE;
    private static final int SMALLEST = Integer.MIN_VALUE, LARGEST = Integer.MAX_VALUE;

    public static void main(String[] args) {
        atFirstAllOfThem();
        parishesThatThereAre();
        yearsFromAndToAreIn();
        sidesAndTradesByBits();
        chooseRefusedKeepsTheChoice();
        choicesByThemselves();
        manyAtItsBounds();
        manyOfAFullBook();
        shareAtItsBounds();
        shareOfNoMarks();
        bestAtItsBoundOfMarks();
        bestOfSeveralTheLeast();
        bestOfTheLastGroups();
        bestOfNone();
        pairsNeedBothSides();
        sparedIsZeroAtLeast();
        sparedWithoutNamesOfGrooms();
        learntByAgeAtItsBounds();
        learntBeyondAllYears();
        learntByEachAgeOrSome();
        learntByOneAge();
        learntArguments();
        boundsOfTheOneThatIsAsked();
        boundsAtZeroAndOne();
        tensAtTheirBounds();
        tensOfSeveralTheEarliest();
        tensOfNone();
        CHECK.finish();
    }

    // ---- promise 17

    private static void atFirstAllOfThem() {
        CrossOrName x = Check.landOf("parish 5;".repeat(12));
        int[][] corners = {{0, 0, 0}, {11, 89, 7}, {0, 89, 7}, {11, 0, 0}};
        for (int i = 0; i < corners.length; i++) {
            x.marry(corners[i][0], corners[i][1], corners[i][2], 1, 0);
            CHECK.due("choice 0", x.many(0, 0), 2 * i + 2);
            CHECK.due("choice 1", x.many(1, 0), 2 * i + 2);
        }
        CHECK.due("the same, chosen", x.choose(0, 4095, 0, 89, 3, 255), 8);
    }

    private static void parishesThatThereAre() {
        CrossOrName x = Check.landOf("parish 5;".repeat(12));
        x.marry(0, 0, 0, 1, 0);
        x.marry(11, 0, 0, 1, 0);
        int[][] want = {{0, 0}, {1, 2}, {2048, 2}, {2049, 4}, {4095, 4}, {4094, 2}, {2047, 2}, {4096, BAD}, {4097, BAD},
            {-1, BAD}, {SMALLEST, BAD}, {LARGEST, BAD}, {1 << 31 | 1, BAD}, {1 << 30, BAD}};
        for (int[] w : want) {
            CHECK.due("choose of " + w[0], x.choose(1, w[0], 0, 89, 3, 255), w[1]);
        }
        CrossOrName y = Check.landOf("parish 5;");
        CHECK.due("one parish", y.choose(0, 1, 0, 89, 3, 255), 0);
        CHECK.due("the second of one", y.choose(0, 2, 0, 89, 3, 255), BAD);
        CHECK.due("the second of one, too", y.choose(0, 3, 0, 89, 3, 255), BAD);
    }

    private static void yearsFromAndToAreIn() {
        CrossOrName x = Check.landOf("parish 5;");
        for (int year : new int[] {0, 10, 11, 20, 21, 89}) {
            x.marry(0, year, 0, 1, 0);
        }
        int[][] want = {{0, 89, 12}, {11, 20, 4}, {10, 21, 8}, {12, 19, 0}, {0, 0, 2}, {89, 89, 2}, {11, 11, 2}, {22, 88, 0},
            {1, 88, 8}, {0, 10, 4}, {21, 89, 4}, {11, 10, BAD}, {89, 0, BAD}, {-1, 89, BAD}, {0, 90, BAD}, {90, 90, BAD},
            {-1, -1, BAD}, {SMALLEST, LARGEST, BAD}, {LARGEST, SMALLEST, BAD}, {0, LARGEST, BAD}, {SMALLEST, 89, BAD}};
        for (int[] w : want) {
            CHECK.due("choose from " + w[0] + " to " + w[1], x.choose(0, 1, w[0], w[1], 3, 255), w[2]);
        }
        CHECK.due("the last that was taken stays", x.many(0, 0), 4);
    }

    private static void sidesAndTradesByBits() {
        CrossOrName x = Check.landOf("parish 5;");
        for (int trade = 0; trade < 8; trade++) {
            x.marry(0, 0, trade, 1, 0);
        }
        int[][] sides = {{0, 0, 0}, {1, 8, 0}, {2, 8, 8}, {3, 16, 8}, {4, BAD, 8}, {5, BAD, 8}, {-1, BAD, 8},
            {SMALLEST, BAD, 8}, {LARGEST, BAD, 8}};
        for (int[] s : sides) {
            CHECK.due("sides " + s[0], x.choose(0, 1, 0, 89, s[0], 255), s[1]);
            CHECK.due("their crosses", x.many(0, 2), s[2]);
        }
        for (int trade = 0; trade < 8; trade++) {
            CHECK.due("trade " + trade, x.choose(0, 1, 0, 89, 3, 1 << trade), 2);
            CHECK.due("its group", x.best(0, 1, 1, 0), trade);
        }
        int[][] trades = {{0, 0}, {255, 16}, {254, 14}, {127, 14}, {256, BAD}, {257, BAD}, {-1, BAD}, {SMALLEST, BAD},
            {LARGEST, BAD}};
        for (int[] t : trades) {
            CHECK.due("trades " + t[0], x.choose(0, 1, 0, 89, 3, t[0]), t[1]);
        }
    }

    private static void chooseRefusedKeepsTheChoice() {
        CrossOrName x = Check.landOf("parish 5;parish 6;");
        x.marry(0, 10, 0, 1, 0);
        x.marry(1, 20, 7, 1, 0);
        x.choose(0, 2, 20, 20, 2, 128);
        int[][] wrong = {{0, 4, 0, 89, 3, 255}, {0, 3, -1, 89, 3, 255}, {0, 3, 0, 90, 3, 255}, {0, 3, 0, 89, 4, 255},
            {0, 3, 0, 89, 3, 256}, {-1, 3, 0, 89, 3, 255}, {2, 3, 0, 89, 3, 255}, {SMALLEST, 3, 0, 89, 3, 255},
            {LARGEST, 3, 0, 89, 3, 255}};
        for (int[] w : wrong) {
            CHECK.due("choose", x.choose(w[0], w[1], w[2], w[3], w[4], w[5]), BAD);
            CHECK.due("one mark as before", x.many(0, 0), 1);
            CHECK.due("a cross as before", x.many(0, 2), 1);
            CHECK.due("choice 1 as before", x.many(1, 0), 4);
        }
    }

    private static void choicesByThemselves() {
        CrossOrName x = Check.landOf("parish 5;");
        x.marry(0, 10, 0, 1, 0);
        CHECK.due("choice 1", x.choose(1, 1, 0, 89, 1, 255), 1);
        CHECK.due("choice 0 stays", x.many(0, 0), 2);
        CHECK.due("choice 0", x.choose(0, 0, 0, 89, 1, 255), 0);
        CHECK.due("choice 1 stays", x.many(1, 0), 1);
    }

    // ---- promises 18 to 20

    private static void manyAtItsBounds() {
        CrossOrName x = Check.landOf("parish 5;");
        x.marry(0, 10, 0, 1, 0);
        int[][] want = {{0, 2}, {1, 1}, {2, 1}, {11, 1}, {12, 0}, {13, 1}, {14, 0}, {15, 0}, {-1, BAD}, {3, BAD}, {9, BAD},
            {10, BAD}, {16, BAD}, {SMALLEST, BAD}, {LARGEST, BAD}};
        for (int[] w : want) {
            CHECK.due("many(0, " + w[0] + ")", x.many(0, w[0]), w[1]);
            CHECK.due("many(1, " + w[0] + ")", x.many(1, w[0]), w[1]);
            CHECK.due("many(2, " + w[0] + ")", x.many(2, w[0]), BAD);
            CHECK.due("many(-1, " + w[0] + ")", x.many(-1, w[0]), BAD);
        }
    }

    private static CrossOrName fullBook(int names) {
        CrossOrName x = Check.landOf("parish 5;");
        for (int m = 0; m < 40; m++) {
            x.marry(0, 0, 0, 2 * m < names ? 1 : 0, 2 * m + 1 < names ? 1 : 0);
        }
        return x;
    }

    private static void manyOfAFullBook() {
        CrossOrName x = fullBook(79);
        CHECK.due("marks", x.many(0, 0), 80);
        CHECK.due("able", x.many(0, 1), 79);
        CHECK.due("crosses", x.many(0, 2), 1);
        CHECK.due("named", x.many(0, 13), 79);
        CHECK.due("chosen anew", x.choose(0, 1, 0, 0, 3, 1), 80);
    }

    private static void shareAtItsBounds() {
        int[][] want = {{0, 0, 1}, {1, 1, 80}, {2, 1, 40}, {40, 1, 2}, {64, 4, 5}, {78, 39, 40}, {79, 79, 80}, {80, 1, 1}};
        for (int[] w : want) {
            CrossOrName x = fullBook(w[0]);
            CHECK.fraction("share of " + w[0], x.share(0, 0), x.share(0, 1), w[1], w[2]);
        }
    }

    private static void shareOfNoMarks() {
        CrossOrName x = fullBook(40);
        int[][] empty = {{0, 0, 89, 3, 255}, {1, 1, 89, 3, 255}, {1, 0, 89, 0, 255}, {1, 0, 89, 3, 254}};
        for (int[] e : empty) {
            CHECK.due("choose", x.choose(1, e[0], e[1], e[2], e[3], e[4]), 0);
            CHECK.fraction("share", x.share(1, 0), x.share(1, 1), NONE, NONE);
        }
        for (int what : new int[] {-1, 2, SMALLEST, LARGEST}) {
            CHECK.due("BAD comes first", x.share(1, what), BAD);
            CHECK.due("share(0, " + what + ")", x.share(0, what), BAD);
        }
        for (int c : new int[] {-1, 2, SMALLEST, LARGEST}) {
            CHECK.due("share(" + c + ", 0)", x.share(c, 0), BAD);
        }
    }

    private static void bestAtItsBoundOfMarks() {
        CrossOrName x = Check.landOf("parish 5;parish 6;");
        // parish 0: 2 of 4, parish 1: 2 of 2
        x.marry(0, 0, 0, 1, 0);
        x.marry(0, 0, 0, 1, 0);
        x.marry(1, 0, 0, 1, 1);
        int[][] want = {{1, 1, 2, 2}, {2, 1, 2, 2}, {3, 0, 4, 2}, {4, 0, 4, 2}, {5, NONE, NONE, NONE}, {99, NONE, NONE, NONE},
            {0, BAD, BAD, BAD}, {100, BAD, BAD, BAD}, {-1, BAD, BAD, BAD}, {SMALLEST, BAD, BAD, BAD}, {LARGEST, BAD, BAD, BAD}};
        for (int[] w : want) {
            for (int what = 0; what < 3; what++) {
                CHECK.due("best(0, 0, " + w[0] + ", " + what + ")", x.best(0, 0, w[0], what), w[1 + what]);
            }
        }
        CHECK.due("80 marks of one", fullBook(3).best(0, 0, 80, 1), 80);
        CHECK.due("81 of 80", fullBook(3).best(0, 0, 81, 1), NONE);
    }

    private static void bestOfSeveralTheLeast() {
        CrossOrName x = Check.landOf("parish 5;".repeat(12));
        // 1 of 2 in parish 11, 2 of 4 in parish 5, 4 of 8 in parish 7
        x.marry(11, 0, 7, 1, 0);
        for (int m = 0; m < 2; m++) {
            x.marry(5, 0, 6, 0, 1);
        }
        for (int m = 0; m < 4; m++) {
            x.marry(7, 0, 3, m % 2, 1 - m % 2);
        }
        CHECK.due("by parishes", x.best(0, 0, 1, 0), 5);
        CHECK.due("its marks", x.best(0, 0, 1, 1), 4);
        CHECK.due("by trades", x.best(0, 1, 1, 0), 3);
        CHECK.due("its able", x.best(0, 1, 1, 2), 4);
        CHECK.due("by parishes with 5 or more", x.best(0, 0, 5, 0), 7);
        // grooms 3 of 7, brides 4 of 7; then 4 of 7 both
        CHECK.due("by sides", x.best(0, 2, 1, 0), 1);
        x.set(3, 0, 0, 1);
        CHECK.due("by sides, both the same", x.best(0, 2, 1, 0), 0);
        CHECK.due("its able", x.best(0, 2, 1, 2), 4);
    }

    private static void bestOfTheLastGroups() {
        CrossOrName x = Check.landOf("parish 5;".repeat(12));
        x.marry(11, 89, 7, 0, 1);
        x.marry(0, 0, 0, 0, 0);
        x.set(0, 1, 4, 0);
        int[][] want = {{0, 11, 2, 1}, {1, 7, 2, 1}, {2, 1, 2, 1}, {3, 0, 1, 1}};
        for (int[] w : want) {
            for (int what = 0; what < 3; what++) {
                CHECK.due("best(0, " + w[0] + ", 1, " + what + ")", x.best(0, w[0], 1, what), w[1 + what]);
            }
        }
        CHECK.due("born there, of 2 or more", x.best(0, 3, 2, 0), 1);
        CHECK.due("with a share of 0", x.best(0, 3, 2, 2), 0);
        for (int v : new int[] {-1, 4, SMALLEST, LARGEST}) {
            CHECK.due("groups " + v, x.best(0, v, 1, 0), BAD);
        }
        for (int v : new int[] {-1, 3, SMALLEST, LARGEST}) {
            CHECK.due("what " + v, x.best(0, 0, 1, v), BAD);
        }
        for (int v : new int[] {-1, 2, SMALLEST, LARGEST}) {
            CHECK.due("choice " + v, x.best(v, 0, 1, 0), BAD);
        }
    }

    private static void bestOfNone() {
        CrossOrName x = Check.landOf("parish 5;");
        for (int groups = 0; groups <= 3; groups++) {
            CHECK.due("no marks", x.best(0, groups, 1, 0), NONE);
            CHECK.due("no marks, BAD comes first", x.best(0, groups, 100, 0), BAD);
            CHECK.due("no marks, BAD comes first, too", x.best(0, groups, 1, 3), BAD);
        }
        x.marry(0, 0, 0, 0, 0);
        CHECK.due("crosses alone", x.best(0, 0, 1, 0), 0);
        CHECK.due("able of them", x.best(0, 0, 1, 2), 0);
    }

    // ---- promises 21 and 22

    private static void pairsNeedBothSides() {
        CrossOrName x = Check.landOf("parish 5;parish 6;");
        int[] how = {1, 2, 3, 4};
        for (int what = 0; what < 4; what++) {
            for (int i = 0; i < how[what]; i++) {
                x.marry(1, 40, 5, what / 2, what % 2);
            }
        }
        for (int what = 0; what < 4; what++) {
            x.choose(0, 2, 40, 40, 3, 32);
            CHECK.due("pairs(0, " + what + ")", x.pairs(0, what), how[what]);
            int[][] without = {{1, 40, 40, 3, 32}, {2, 41, 89, 3, 32}, {2, 0, 39, 3, 32}, {2, 40, 40, 1, 32},
                {2, 40, 40, 2, 32}, {2, 40, 40, 0, 32}, {2, 40, 40, 3, 223}};
            for (int[] w : without) {
                x.choose(0, w[0], w[1], w[2], w[3], w[4]);
                CHECK.due("none of these", x.pairs(0, what), 0);
            }
        }
        CHECK.due("of choice 1", x.pairs(1, 3), 4);
        for (int v : new int[] {-1, 4, SMALLEST, LARGEST}) {
            CHECK.due("pairs(0, " + v + ")", x.pairs(0, v), BAD);
            CHECK.due("pairs(" + v + ", 0)", x.pairs(v, 0), BAD);
        }
        CHECK.due("pairs(2, 0)", x.pairs(2, 0), BAD);
    }

    private static void spared(int crosses, int crossAndName, int nameAndCross, int names, int top, int bottom) {
        CrossOrName x = Check.landOf("parish 5;");
        int[] how = {crosses, crossAndName, nameAndCross, names};
        for (int what = 0; what < 4; what++) {
            for (int i = 0; i < how[what]; i++) {
                x.marry(0, 0, 0, what / 2, what % 2);
            }
        }
        CHECK.fraction("spared of " + crosses + ", " + crossAndName + ", " + nameAndCross + ", " + names, x.spared(0, 0),
                x.spared(0, 1), top, bottom);
    }

    private static void sparedIsZeroAtLeast() {
        spared(1, 1, 1, 1, 0, 1);
        spared(2, 1, 1, 1, 1, 2);
        spared(1, 2, 1, 1, 0, 1);
        spared(0, 0, 0, 1, 0, 1);
        spared(0, 0, 1, 0, 0, 1);
        spared(0, 1, 1, 0, 0, 1);
        spared(1, 0, 1, 0, 0, 1);
        spared(39, 0, 0, 1, 39, 1);
        spared(38, 1, 1, 0, 0, 1);
        spared(1, 0, 1, 38, 38, 39);
        // 20 less 21 times 1 by 19
        spared(20, 1, 1, 18, 359, 19);
    }

    private static void sparedWithoutNamesOfGrooms() {
        spared(0, 0, 0, 0, NONE, NONE);
        spared(1, 0, 0, 0, NONE, NONE);
        spared(20, 20, 0, 0, NONE, NONE);
        CrossOrName x = Check.landOf("parish 5;");
        x.marry(0, 0, 0, 1, 1);
        CHECK.due("a groom with a name", x.spared(0, 1), 1);
        for (int sides = 0; sides < 3; sides++) {
            x.choose(0, 1, 0, 89, sides, 255);
            CHECK.due("but his pair is not in the choice", x.spared(0, 1), NONE);
            CHECK.due("BAD comes first", x.spared(0, 2), BAD);
        }
        for (int v : new int[] {-1, 2, SMALLEST, LARGEST}) {
            CHECK.due("spared(1, " + v + ")", x.spared(1, v), BAD);
            CHECK.due("spared(" + v + ", 0)", x.spared(v, 0), BAD);
        }
    }

    // ---- promise 23

    private static CrossOrName mark(String land, int year, int age) {
        CrossOrName x = Check.landOf("parish 5;" + land);
        x.marry(0, year, 0, 1, 1);
        x.choose(0, 1, 0, 89, 1, 255);
        x.set(0, 0, 1, age);
        return x;
    }

    /** One mark that is able: what is asked of it is 1 or 0. */
    private static void learnt(CrossOrName x, int a, int b, int surely, int perhaps) {
        int[] want = {surely, perhaps, surely, perhaps};
        for (int what = 0; what < 4; what++) {
            CHECK.due("learnt(0, " + a + ", " + b + ", " + what + ")", x.learnt(0, a, b, what), want[what]);
        }
    }

    private static void learntByAgeAtItsBounds() {
        CrossOrName x = mark("learn 5;", 0, 60);
        learnt(x, -55, -55, 1, 0);
        learnt(x, -60, -56, 0, 0);
        learnt(x, -54, 89, 0, 0);
        learnt(x, -60, -55, 1, 0);
        learnt(x, -55, 89, 1, 0);
        CrossOrName y = mark("learn 20;", 85, 16);
        learnt(y, 89, 89, 1, 0);
        learnt(y, 88, 88, 0, 0);
        learnt(y, -60, 88, 0, 0);
        learnt(y, -60, 89, 1, 0);
        CrossOrName z = mark("", 9, 20);
        learnt(z, 0, 0, 1, 0);
        learnt(z, -60, -1, 0, 0);
        learnt(z, 1, 89, 0, 0);
        z.set(0, 0, 0, 0);
        CHECK.due("a cross", z.learnt(0, 0, 0, 0), 1);
        CHECK.due("is not able", z.learnt(0, 0, 0, 2), 0);
    }

    private static void learntBeyondAllYears() {
        learnt(mark("learn 20;", 86, 16), -60, 89, 0, 0);
        learnt(mark("learn 20;", 89, 16), -60, 89, 0, 0);
        // by 16 in 93, by 25 in 84
        CrossOrName x = mark("learn 20;ages 16 25;", 89, 0);
        learnt(x, -60, 89, 0, 1);
        learnt(x, 84, 89, 0, 1);
        learnt(x, 84, 84, 0, 1);
        learnt(x, -60, 83, 0, 0);
        learnt(mark("learn 20;ages 16 19;", 89, 0), -60, 89, 0, 0);
        learnt(mark("learn 20;ages 20 20;", 89, 0), -60, 89, 1, 0);
    }

    private static void learntByEachAgeOrSome() {
        // by 60 in 1, by 16 in 45
        CrossOrName x = mark("ages 16 60;", 50, 0);
        learnt(x, 1, 45, 1, 0);
        learnt(x, 0, 46, 1, 0);
        learnt(x, 2, 45, 0, 1);
        learnt(x, 1, 44, 0, 1);
        learnt(x, -60, 1, 0, 1);
        learnt(x, -60, 0, 0, 0);
        learnt(x, 45, 89, 0, 1);
        learnt(x, 46, 89, 0, 0);
        learnt(x, 20, 20, 0, 1);
        // as at first: by 35 in 26, by 20 in 41
        CrossOrName y = mark("", 50, 0);
        learnt(y, 26, 41, 1, 0);
        learnt(y, 27, 41, 0, 1);
        learnt(y, 26, 40, 0, 1);
        learnt(y, 0, 25, 0, 0);
        learnt(y, 42, 89, 0, 0);
    }

    private static void learntByOneAge() {
        CrossOrName x = mark("learn 5;ages 60 60;", 0, 0);
        learnt(x, -55, -55, 1, 0);
        learnt(x, -60, -56, 0, 0);
        learnt(x, -54, 0, 0, 0);
        CrossOrName y = mark("ages 30 30;", 50, 0);
        learnt(y, 31, 31, 1, 0);
        learnt(y, 30, 30, 0, 0);
        learnt(y, 32, 32, 0, 0);
    }

    private static void learntArguments() {
        CrossOrName x = mark("", 50, 0);
        int[][] right = {{-60, -60}, {89, 89}, {-60, 89}, {0, 0}, {-1, 0}};
        for (int[] r : right) {
            CHECK.due("learnt", x.learnt(0, r[0], r[1], 0) == BAD ? 1 : 0, 0);
            CHECK.due("bounds", x.bounds(0, r[0], r[1], 0) == BAD ? 1 : 0, 0);
        }
        int[][] wrong = {{-61, -60}, {-61, 89}, {-60, 90}, {90, 90}, {-61, -61}, {1, 0}, {89, -60}, {SMALLEST, 0},
            {0, LARGEST}, {LARGEST, LARGEST}, {SMALLEST, SMALLEST}, {0, SMALLEST}, {LARGEST, 0}};
        for (int[] w : wrong) {
            for (int what = 0; what < 4; what++) {
                CHECK.due("learnt(0, " + w[0] + ", " + w[1] + ")", x.learnt(0, w[0], w[1], what), BAD);
                CHECK.due("bounds(0, " + w[0] + ", " + w[1] + ")", x.bounds(0, w[0], w[1], what), BAD);
            }
        }
        for (int v : new int[] {-1, 4, SMALLEST, LARGEST}) {
            CHECK.due("learnt, what " + v, x.learnt(0, 0, 0, v), BAD);
            CHECK.due("bounds, what " + v, x.bounds(0, 0, 0, v), BAD);
            CHECK.due("learnt, choice " + v, x.learnt(v, 0, 0, 0), BAD);
            CHECK.due("bounds, choice " + v, x.bounds(v, 0, 0, 0), BAD);
        }
        CHECK.due("learnt, choice 2", x.learnt(2, 0, 0, 0), BAD);
        CHECK.due("bounds, choice 2", x.bounds(2, 0, 0, 0), BAD);
    }

    // ---- promise 24

    private static void bounds(CrossOrName x, int a, int b, int... want) {
        for (int what = 0; what < 4; what++) {
            CHECK.due("bounds(0, " + a + ", " + b + ", " + what + ")", x.bounds(0, a, b, what), want[what]);
        }
    }

    private static void boundsOfTheOneThatIsAsked() {
        CrossOrName able = mark("", 50, 0);
        bounds(able, 26, 26, NONE, NONE, 1, 1);
        bounds(able, 26, 41, 1, 1, 1, 1);
        bounds(able, 0, 25, NONE, NONE, NONE, NONE);
        able.set(0, 0, 0, 0);
        bounds(able, 26, 26, 0, 1, NONE, NONE);
        bounds(able, 26, 41, 0, 1, 0, 1);
        bounds(able, 42, 89, NONE, NONE, NONE, NONE);
        CHECK.due("BAD comes first", able.bounds(0, 42, 89, 4), BAD);
    }

    private static void boundsAtZeroAndOne() {
        // a name and a cross perhaps in
        CrossOrName x = mark("", 50, 0);
        x.set(0, 1, 0, 0);
        x.choose(0, 1, 0, 89, 3, 255);
        bounds(x, 26, 26, 0, 1, 1, 1);
        bounds(x, 26, 41, 1, 2, 1, 2);
        // the name surely, the cross perhaps
        x.set(0, 0, 1, 35);
        bounds(x, 26, 26, 1, 2, 1, 1);
        // the cross surely, the name perhaps
        x.set(0, 0, 1, 0);
        x.set(0, 1, 1, 35);
        bounds(x, 26, 26, 0, 1, 1, 2);
        bounds(x, 27, 27, NONE, NONE, 1, 1);
    }

    // ---- promise 25

    private static void tens(int learn, int year, int age, int want) {
        CrossOrName x = mark("learn " + learn + ";", year, age);
        CHECK.due("learnt in " + (year - age + learn), x.tens(0, 0), want);
        CHECK.due("how many", x.tens(0, 1), want == -1004 ? -1004 : 1);
    }

    private static void tensAtTheirBounds() {
        tens(5, 0, 60, -60);
        tens(5, 4, 60, -60);
        tens(5, 5, 60, -50);
        tens(5, 14, 60, -50);
        tens(5, 15, 60, -40);
        tens(11, 0, 21, -10);
        tens(11, 0, 20, -10);
        tens(11, 8, 20, -10);
        tens(11, 9, 20, 0);
        tens(11, 18, 20, 0);
        tens(11, 19, 20, 10);
        tens(20, 75, 16, 70);
        tens(20, 76, 16, 80);
        tens(20, 85, 16, 80);
        tens(20, 86, 16, -1004);
        tens(20, 89, 16, -1004);
    }

    private static void tensOfSeveralTheEarliest() {
        CrossOrName x = Check.landOf("parish 5;learn 10;");
        int[] ages = {60, 16, 60, 16};
        int[] years = {80, 80, 0, 89};
        for (int m = 0; m < 4; m++) {
            x.marry(0, years[m], 0, 1, 0);
            x.set(m, 0, 1, ages[m]);
        }
        CHECK.due("one in each of -50, 30, 70, 80", x.tens(0, 0), -50);
        x.tear(2);
        CHECK.due("one in each of 30, 70, 80", x.tens(0, 0), 30);
        x.set(2, 1, 1, 16);
        CHECK.due("two in 80", x.tens(0, 0), 80);
        CHECK.due("how many", x.tens(0, 1), 2);
        x.set(0, 1, 1, 60);
        CHECK.due("two in 30 and in 80", x.tens(0, 0), 30);
        CHECK.due("crosses are counted, too", x.tens(0, 1), 2);
    }

    private static void tensOfNone() {
        CrossOrName x = Check.landOf("parish 5;");
        x.marry(0, 50, 0, 1, 1);
        CHECK.due("no ages", x.tens(0, 0), -1004);
        CHECK.due("no ages, how many", x.tens(0, 1), -1004);
        x.set(0, 0, 1, 30);
        CHECK.due("an age", x.tens(0, 0), 30);
        x.choose(0, 1, 0, 89, 2, 255);
        CHECK.due("an age out of the choice", x.tens(0, 0), -1004);
        for (int v : new int[] {-1, 2, SMALLEST, LARGEST}) {
            CHECK.due("BAD comes first", x.tens(0, v), -1000);
            CHECK.due("tens(1, " + v + ")", x.tens(1, v), -1000);
            CHECK.due("tens(" + v + ", 0)", x.tens(v, 0), -1000);
        }
    }
}
