/** Promises 9 to 16: marriages, their marks, the kinds of marks. */
public final class BooksTest {
    private static final Check CHECK = new Check("BooksTest");

    public static void main(String[] args) {
        marry();
        marryFull();
        set();
        of();
        written();
        drawn();
        spared();
        wrongMarks();
        apart();
        tear();
        CHECK.finish();
    }

    private static void marry() {
        CrossOrName x = Check.landOf("parish 5;parish 6;");
        CHECK.due("marry(-1, ..)", x.marry(-1, 0, 0, 0, 0), -1);
        CHECK.due("marry(2, ..)", x.marry(2, 0, 0, 0, 0), -1);
        CHECK.due("year -1", x.marry(0, -1, 0, 0, 0), -1);
        CHECK.due("year 90", x.marry(0, 90, 0, 0, 0), -1);
        CHECK.due("trade -1", x.marry(0, 0, -1, 0, 0), -1);
        CHECK.due("trade 8", x.marry(0, 0, 8, 0, 0), -1);
        CHECK.due("groom 2", x.marry(0, 0, 0, 2, 0), -1);
        CHECK.due("groom -1", x.marry(0, 0, 0, -1, 0), -1);
        CHECK.due("bride 2", x.marry(0, 0, 0, 0, 2), -1);
        CHECK.due("bride -1", x.marry(0, 0, 0, 0, -1), -1);
        CHECK.due("none came", x.count(0), 0);
        CHECK.due("the first", x.marry(1, 89, 7, 1, 0), 0);
        CHECK.due("the second", x.marry(0, 0, 0, 0, 1), 1);
        int[][] want = {{1, 0, 0, 0, 1}, {0, 0, 0, 0, 1}};
        for (int side = 0; side < 2; side++) {
            for (int what = 0; what < 5; what++) {
                CHECK.due("has(0, " + side + ", " + what + ")", x.has(0, side, what), want[side][what]);
            }
        }
    }

    private static void marryFull() {
        CrossOrName x = Check.landOf("parish 5;");
        for (int m = 0; m < 40; m++) {
            CHECK.due("marry", x.marry(0, m, 0, 1, 1), m);
        }
        CHECK.due("the 41st", x.marry(0, 0, 0, 0, 0), -3);
        CHECK.due("the 41st, wrong too", x.marry(1, 0, 0, 0, 0), -1);
        CHECK.due("still 40", x.count(0), 40);
        CHECK.due("tear(39)", x.tear(39), 39);
        CHECK.due("room for one", x.marry(0, 0, 0, 0, 0), 39);
        CHECK.due("the sides are new", x.has(39, 0, 0), 0);
    }

    private static void set() {
        CrossOrName x = Check.landOf("parish 5;");
        x.marry(0, 0, 0, 1, 0);
        int[][] wrong = {{0, -1}, {0, 2}, {1, -1}, {1, 1}, {1, 15}, {1, 61}, {2, -1}, {2, 256}, {3, -1}, {3, 100},
            {4, -1}, {4, 2}, {5, 0}, {-1, 0}};
        for (int[] w : wrong) {
            CHECK.due("set(0, 0, " + w[0] + ", " + w[1] + ")", x.set(0, 0, w[0], w[1]), -1);
        }
        int[][] right = {{1, 16, 0}, {1, 60, 16}, {1, 0, 60}, {2, 255, 0}, {2, 7, 255}, {3, 1, 0}, {3, 99, 1},
            {3, 0, 99}, {4, 0, 1}, {4, 1, 0}, {0, 1, 1}};
        for (int[] r : right) {
            CHECK.due("set(0, 0, " + r[0] + ", " + r[1] + ")", x.set(0, 0, r[0], r[1]), r[2]);
            CHECK.due("has(0, 0, " + r[0] + ")", x.has(0, 0, r[0]), r[1]);
        }
        CHECK.due("a name put again keeps its hand", x.has(0, 0, 2), 7);
        CHECK.due("a cross", x.set(0, 0, 0, 0), 1);
        CHECK.due("has no hand", x.has(0, 0, 2), 0);
        CHECK.due("hand of a cross", x.set(0, 0, 2, 3), -2);
        CHECK.due("hand 0 of a cross", x.set(0, 1, 2, 0), -2);
        CHECK.due("hand 256 of a cross", x.set(0, 1, 2, 256), -1);
        CHECK.due("a name again", x.set(0, 0, 0, 1), 0);
        CHECK.due("has hand 0", x.has(0, 0, 2), 0);
        CHECK.due("set of no marriage", x.set(1, 0, 0, 0), -1);
        CHECK.due("set of marriage -1", x.set(-1, 0, 0, 0), -1);
        CHECK.due("set of side 2", x.set(0, 2, 0, 0), -1);
        CHECK.due("set of side -1", x.set(0, -1, 0, 0), -1);
    }

    private static void of() {
        CrossOrName x = Check.landOf("parish 5;parish 6;");
        x.marry(1, 89, 7, 1, 0);
        CHECK.due("of(0, 0)", x.of(0, 0), 1);
        CHECK.due("of(0, 1)", x.of(0, 1), 89);
        CHECK.due("of(0, 2)", x.of(0, 2), 7);
        CHECK.due("of(0, 3)", x.of(0, 3), -1);
        CHECK.due("of(0, -1)", x.of(0, -1), -1);
        CHECK.due("of(1, 0)", x.of(1, 0), -1);
        CHECK.due("of(-1, 0)", x.of(-1, 0), -1);
    }

    private static void written() {
        CrossOrName x = Check.landOf("parish 5;parish 6;clerk 0 10 20 15 1;clerk 0 15 30 14 0;");
        int[][] rows = {{0, 9, 15, 3, -4}, {0, 10, 15, 5, 0}, {0, 20, 7, 5, 0}, {0, 20, 3, 3, -4}, {0, 21, 15, 3, -4},
            {0, 21, 14, 5, 1}, {0, 15, 14, 5, 0}, {1, 15, 15, 3, -4}, {0, 30, 14, 5, 1}, {0, 31, 14, 3, -4}};
        for (int i = 0; i < rows.length; i++) {
            x.marry(rows[i][0], rows[i][1], 0, 1, 0);
            x.set(i, 0, 2, rows[i][2]);
            CHECK.due("kind(" + i + ", 0)", x.kind(i, 0), rows[i][3]);
            CHECK.due("writer(" + i + ", 0)", x.writer(i, 0), rows[i][4]);
            CHECK.due("a cross is by no clerk", x.writer(i, 1), -4);
        }
        // hand 0 is near enough to a clerk's, yet a cross is no name
        CrossOrName y = Check.landOf("parish 5;clerk 0 0 89 0 4;");
        y.marry(0, 5, 0, 0, 1);
        CHECK.due("kind of a cross", y.kind(0, 0), 1);
        CHECK.due("writer of a cross", y.writer(0, 0), -4);
        CHECK.due("kind of a name", y.kind(0, 1), 5);
    }

    private static void drawn() {
        CrossOrName x = Check.landOf("parish 5;parish 6;clerk 1 0 89 255 0;picture 2;");
        x.marry(0, 10, 0, 1, 1);
        x.marry(0, 10, 0, 1, 1);
        CHECK.due("nobody knows who", x.kind(0, 0), 3);
        x.set(0, 0, 3, 4);
        CHECK.due("one name alone", x.kind(0, 0), 3);
        x.set(0, 1, 3, 4);
        CHECK.due("both in one marriage", x.kind(0, 0), 3);
        x.set(0, 1, 3, 0);
        x.set(1, 0, 3, 4);
        x.set(1, 0, 2, 3);
        CHECK.due("two bits apart", x.kind(0, 0), 4);
        CHECK.due("the other one", x.kind(1, 0), 4);
        x.set(1, 0, 2, 7);
        CHECK.due("three bits apart", x.kind(0, 0), 3);
        x.set(1, 0, 2, 3);
        x.marry(1, 20, 0, 0, 1);
        x.set(2, 1, 3, 4);
        x.set(2, 1, 2, 255);
        CHECK.due("a written name", x.kind(2, 1), 5);
        CHECK.due("is not looked at", x.kind(0, 0), 4);
        x.set(2, 1, 2, 1);
        CHECK.due("all three near", x.kind(2, 1), 4);
        x.set(2, 1, 2, 128);
        CHECK.due("near to one of two", x.kind(0, 0), 4);
        CHECK.due("far from one of two", x.kind(1, 0), 3);
        CHECK.due("the third", x.kind(2, 1), 3);
        // a far name in the same marriage is one of all others, too
        CrossOrName y = Check.landOf("parish 5;");
        y.marry(0, 1, 0, 1, 1);
        y.marry(0, 2, 0, 1, 0);
        y.set(0, 0, 3, 9);
        y.set(0, 1, 3, 9);
        y.set(1, 0, 3, 9);
        y.set(0, 1, 2, 255);
        CHECK.due("the same marriage counts among all others", y.kind(0, 0), 3);
    }

    private static void spared() {
        CrossOrName x = Check.landOf("parish 5;parish 6;clerk 1 0 89 0 0;picture 0;");
        x.marry(0, 10, 0, 1, 1);
        x.marry(0, 20, 0, 0, 0);
        x.set(0, 0, 2, 9);
        CHECK.due("nobody knows who", x.kind(1, 0), 1);
        x.set(0, 0, 3, 5);
        x.set(1, 1, 3, 5);
        CHECK.due("a name ahead", x.kind(1, 1), 2);
        CHECK.due("another one's cross", x.kind(1, 0), 1);
        x.marry(0, 10, 0, 0, 0);
        x.set(2, 0, 3, 5);
        CHECK.due("in the same year", x.kind(2, 0), 1);
        x.marry(0, 5, 0, 1, 0);
        x.set(3, 0, 3, 5);
        x.set(3, 0, 2, 9);
        CHECK.due("names that are drawn", x.kind(0, 0), 4);
        CHECK.due("spare nobody", x.kind(1, 1), 1);
        x.set(3, 0, 2, 8);
        CHECK.due("named again", x.kind(1, 1), 2);
        x.set(0, 0, 0, 0);
        x.set(3, 0, 0, 0);
        x.marry(1, 2, 0, 1, 0);
        x.set(4, 0, 3, 5);
        CHECK.due("a name that is written", x.kind(4, 0), 5);
        CHECK.due("spares nobody", x.kind(1, 1), 1);
    }

    private static void wrongMarks() {
        CrossOrName x = Check.landOf("parish 5;");
        x.marry(0, 0, 0, 1, 1);
        int[][] wrong = {{-1, 0}, {1, 0}, {0, -1}, {0, 2}};
        for (int[] w : wrong) {
            CHECK.due("kind", x.kind(w[0], w[1]), -1);
            CHECK.due("writer", x.writer(w[0], w[1]), -1);
            CHECK.due("has", x.has(w[0], w[1], 0), -1);
        }
        CHECK.due("has(0, 0, 5)", x.has(0, 0, 5), -1);
        CHECK.due("has(0, 0, -1)", x.has(0, 0, -1), -1);
    }

    private static void apart() {
        CrossOrName x = new CrossOrName();
        CHECK.due("apart(0, 0)", x.apart(0, 0), 0);
        CHECK.due("apart(5, 4)", x.apart(5, 4), 1);
        CHECK.due("apart(255, 0)", x.apart(255, 0), 8);
        CHECK.due("apart(-1, 0)", x.apart(-1, 0), -1);
        CHECK.due("apart(0, -1)", x.apart(0, -1), -1);
        CHECK.due("apart(0, 256)", x.apart(0, 256), -1);
        CHECK.due("apart(256, 0)", x.apart(256, 0), -1);
    }

    private static void tear() {
        CrossOrName x = Check.landOf("parish 5;parish 6;");
        x.marry(0, 10, 1, 1, 0);
        x.marry(1, 20, 2, 0, 1);
        x.marry(0, 30, 3, 1, 1);
        x.set(2, 1, 1, 33);
        x.set(2, 0, 2, 44);
        CHECK.due("tear(-1)", x.tear(-1), -1);
        CHECK.due("tear(3)", x.tear(3), -1);
        CHECK.due("tear(1)", x.tear(1), 2);
        CHECK.due("year moved up", x.of(1, 1), 30);
        CHECK.due("trade moved up", x.of(1, 2), 3);
        CHECK.due("age moved up", x.has(1, 1, 1), 33);
        CHECK.due("hand moved up", x.has(1, 0, 2), 44);
        CHECK.due("the first stays", x.of(0, 1), 10);
        CHECK.due("parish moved up", x.of(1, 0), 0);
        CHECK.due("mark moved up", x.has(1, 1, 0), 1);
        x.set(0, 0, 3, 8);
        x.set(1, 0, 3, 8);
        x.set(1, 0, 2, 0);
        CHECK.due("drawn", x.kind(0, 0), 4);
        CHECK.due("tear the last", x.tear(1), 1);
        CHECK.due("no more drawn", x.kind(0, 0), 3);
        CHECK.due("tear the only one", x.tear(0), 0);
        CHECK.due("tear of none", x.tear(0), -1);
    }
}
