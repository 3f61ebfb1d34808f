/** Promises 36 to 42: images, sheets, counts. */
public final class ImagesTest {
    private static final Check CHECK = new Check("ImagesTest");

    public static void main(String[] args) {
        keepAndBack();
        backInAnotherLand();
        backLosesParishesForGood();
        sheet();
        lay();
        readWhole();
        readTorn();
        readRefused();
        readFull();
        count();
        CHECK.finish();
    }

    private static void keepAndBack() {
        CrossOrName x = Check.landOf("parish 5;parish 6;");
        x.marry(1, 10, 3, 1, 0);
        x.set(0, 0, 2, 77);
        x.set(0, 1, 4, 0);
        x.choose(0, 2, 5, 15, 1, 8);
        CHECK.due("keep(0)", x.keep(0), 0);
        CHECK.due("keep(0) again", x.keep(0), 1);
        CHECK.due("keep(2)", x.keep(2), -1);
        CHECK.due("keep(-1)", x.keep(-1), -1);
        x.set(0, 0, 0, 0);
        x.marry(0, 0, 0, 0, 0);
        x.choose(0, 3, 0, 89, 3, 255);
        x.choose(1, 0, 0, 0, 0, 0);
        CHECK.due("back(1): there is none", x.back(1), -2);
        CHECK.due("back(2)", x.back(2), -1);
        CHECK.due("back(-1)", x.back(-1), -1);
        CHECK.due("keep(1)", x.keep(1), 0);
        CHECK.due("images", x.count(3), 2);
        CHECK.due("back(0)", x.back(0), 1);
        CHECK.due("hand", x.has(0, 0, 2), 77);
        CHECK.due("born", x.has(0, 1, 4), 0);
        CHECK.due("kind", x.kind(0, 0), 3);
        CHECK.due("choice 0", x.many(0, 0), 1);
        CHECK.due("choice 1", x.many(1, 0), 2);
        x.tear(0);
        CHECK.due("an image stays as it was", x.back(0), 1);
        CHECK.due("back(1)", x.back(1), 2);
        CHECK.due("choice 1 of it", x.many(1, 0), 0);
        CHECK.due("mark of it", x.has(0, 0, 0), 0);
    }

    private static void backInAnotherLand() {
        CrossOrName x = Check.landOf("parish 5;parish 6;");
        x.marry(0, 10, 0, 1, 1);
        x.choose(1, 2, 0, 89, 3, 255);
        x.keep(0);
        x.marry(1, 10, 0, 1, 1);
        x.keep(1);
        Check.tell(x, "parish 9;");
        x.choose(0, 0, 0, 89, 3, 255);
        CHECK.due("a parish that there is not", x.back(1), -2);
        CHECK.due("nothing came", x.count(0), 0);
        CHECK.due("the choice stays", x.choose(0, 0, 0, 89, 3, 255), 0);
        CHECK.due("back(0)", x.back(0), 1);
        CHECK.due("choice 0", x.many(0, 0), 2);
        CHECK.due("choice 1 has lost its parish", x.many(1, 0), 0);
        Check.tell(x, "parish 9;parish 9;parish 9;");
        CHECK.due("back(1)", x.back(1), 2);
        x.marry(2, 0, 0, 1, 1);
        CHECK.due("the third parish is in no choice", x.many(0, 0), 4);
        CHECK.due("the image had its parish still", x.many(1, 0), 2);
    }

    private static void backLosesParishesForGood() {
        CrossOrName x = Check.landOf("parish 5;parish 6;");
        x.marry(0, 10, 0, 1, 1);
        x.choose(1, 2, 0, 89, 3, 255);
        x.keep(0);
        Check.tell(x, "parish 9;");
        x.back(0);
        x.keep(1);
        Check.tell(x, "parish 5;parish 6;");
        CHECK.due("back(1)", x.back(1), 1);
        x.marry(1, 0, 0, 1, 1);
        CHECK.due("choice 0 has parish 0 alone", x.many(0, 0), 2);
        CHECK.due("choice 1 has none", x.many(1, 0), 0);
        Check.tell(x, "");
        CHECK.due("the first marriage's parish is not there", x.back(0), -2);
    }

    private static void sheet() {
        CrossOrName x = new CrossOrName();
        CHECK.due("sheet(0, 0, 0)", x.sheet(0, 0, 0), 1);
        CHECK.due("no cells", x.count(2), 0);
        CHECK.due("sheet(0, 2, 60)", x.sheet(0, 2, 60), 1);
        CHECK.due("60 cells", x.count(2), 60);
        CHECK.due("n -1", x.sheet(0, 2, -1), -14);
        CHECK.due("n least", x.sheet(0, 2, Integer.MIN_VALUE), -14);
        CHECK.due("n 61", x.sheet(0, 2, 61), -1);
        CHECK.due("still 60 cells", x.count(2), 60);
        CHECK.due("lane 3", x.sheet(0, 3, 1), -1);
        CHECK.due("lane -1", x.sheet(0, -1, 1), -1);
        CHECK.due("k 4", x.sheet(4, 0, 1), -1);
        CHECK.due("k -1", x.sheet(-1, 0, 1), -1);
        CHECK.due("k 4 and n -1", x.sheet(4, 0, -1), -1);
        CHECK.due("lane 3 and n -1", x.sheet(0, 3, -1), -1);
    }

    private static void lay() {
        CrossOrName x = new CrossOrName();
        CHECK.due("nothing", x.lay(0, 0, 0), -11);
        x.sheet(0, 0, 5);
        CHECK.due("lay(0, 0)", x.lay(0, 0, 0), 1);
        CHECK.due("lay(0, 4)", x.lay(0, 4, 0), 1);
        CHECK.due("lay(0, 5)", x.lay(0, 5, 0), -12);
        x.sheet(1, 0, 0);
        CHECK.due("a sheet of no cells", x.lay(1, 0, 0), -12);
        CHECK.due("lay(0, -1)", x.lay(0, -1, 0), -12);
        CHECK.due("lay(4)", x.lay(4, 0, 0), -1);
        CHECK.due("lay(-1)", x.lay(-1, 0, 0), -1);
    }

    private static void lowestBits(int lane, int v, int want) {
        CrossOrName x = Check.landOf("parish 5;");
        x.sheet(2, lane, 5);
        x.lay(2, 1, v);
        CHECK.due("lane " + lane + " of " + v, x.read(2, lane, 0, 1), want < 0 ? -20 : 1);
        CHECK.due("the year", x.of(0, 1), want);
    }

    private static void readWhole() {
        lowestBits(0, 256 + 7, 7);
        lowestBits(0, 255, -1);
        lowestBits(0, -249, 7);
        lowestBits(1, 65536 + 7, 7);
        lowestBits(1, 256 + 7, -1);
        lowestBits(2, 65536 + 7, -1);
        lowestBits(2, 7, 7);
        CrossOrName x = Check.landOf("parish 5;parish 6;");
        x.marry(0, 0, 0, 1, 1);
        x.sheet(3, 1, 12);
        int[] cells = {9, 1, 20, 3, 0, 1, 0, 30, 4, 1, 0, 9};
        for (int i = 0; i < cells.length; i++) {
            x.lay(3, i, cells[i]);
        }
        CHECK.due("kinds ahead of it", x.many(0, 13), 2);
        CHECK.due("read two", x.read(3, 1, 1, 2), 2);
        CHECK.due("not torn", x.torn(), 0);
        CHECK.due("kinds of what came", x.many(0, 13), 4);
        int[][] want = {{1, 20, 3, 0, 1}, {0, 30, 4, 1, 0}};
        for (int i = 0; i < 2; i++) {
            for (int what = 0; what < 3; what++) {
                CHECK.due("of(" + (i + 1) + ", " + what + ")", x.of(i + 1, what), want[i][what]);
            }
            CHECK.due("groom", x.has(i + 1, 0, 0), want[i][3]);
            CHECK.due("bride", x.has(i + 1, 1, 0), want[i][4]);
        }
    }

    private static void readTorn() {
        CrossOrName x = Check.landOf("parish 5;");
        x.sheet(0, 0, 14);
        CHECK.due("two are whole", x.read(0, 0, 0, 3), 2);
        CHECK.due("torn: index", x.torn(), 2);
        CHECK.due("of nothing", x.read(1, 0, 0, 1), 0);
        CHECK.due("torn: null", x.torn(), 1);
        CHECK.due("of another lane", x.read(0, 1, 0, 1), 0);
        CHECK.due("torn: cast", x.torn(), 3);
        CHECK.due("refused", x.read(0, 3, 0, 1), -1);
        CHECK.due("leaves it", x.torn(), 3);
        CHECK.due("none of nothing", x.read(1, 2, -5, 0), 0);
        CHECK.due("is no fault", x.torn(), 0);
        int[] outside = {-1, -5, 10, 14, 15, Integer.MAX_VALUE, Integer.MIN_VALUE};
        for (int f : outside) {
            x.read(1, 0, 0, 1);
            CHECK.due("read from " + f, x.read(0, 0, f, 1), 0);
            CHECK.due("torn: index", x.torn(), 2);
        }
        CHECK.due("from 9 the last is whole", x.read(0, 0, 9, 2), 1);
        CHECK.due("torn: index", x.torn(), 2);
        CHECK.due("three came in all", x.count(0), 3);
        x.sheet(0, 0, 0);
        CHECK.due("of no cells", x.read(0, 0, 0, 1), 0);
        x.sheet(0, 0, 5);
        x.lay(0, 0, 1);
        x.sheet(0, 0, 5);
        CHECK.due("the cells of a new sheet are 0", x.read(0, 0, 0, 1), 1);
        x.sheet(0, 0, 0);
        x.read(0, 0, 0, 1);
        CHECK.due("torn: index", x.torn(), 2);
    }

    private static void readRefused() {
        CrossOrName x = Check.landOf("parish 5;");
        x.sheet(0, 0, 12);
        x.read(1, 0, 0, 1);
        x.lay(0, 5, 1);
        CHECK.due("the second is no marriage", x.read(0, 0, 0, 3), -21);
        CHECK.due("none came", x.count(0), 0);
        CHECK.due("torn stays", x.torn(), 1);
        x.lay(0, 5, 0);
        int[][] wrong = {{0, -1}, {1, 90}, {2, 8}, {3, 2}, {4, -1}};
        for (int[] w : wrong) {
            x.lay(0, w[0], w[1]);
            CHECK.due("cell " + w[0] + " is " + w[1], x.read(0, 0, 0, 2), -20);
            x.lay(0, w[0], 0);
        }
        x.lay(0, 10, 9);
        CHECK.due("what is not whole is not looked at", x.read(0, 0, 0, 3), 2);
        CHECK.due("read(-1, ..)", x.read(-1, 0, 0, 0), -1);
        CHECK.due("read(4, ..)", x.read(4, 0, 0, 0), -1);
        CHECK.due("lane -1", x.read(0, -1, 0, 0), -1);
        CHECK.due("n -1", x.read(0, 0, 0, -1), -1);
        CHECK.due("n 13", x.read(0, 0, 0, 13), -1);
    }

    private static void readFull() {
        CrossOrName x = Check.landOf("parish 5;");
        x.sheet(0, 0, 60);
        CHECK.due("twelve", x.read(0, 0, 0, 12), 12);
        CHECK.due("twelve", x.read(0, 0, 0, 12), 12);
        CHECK.due("twelve", x.read(0, 0, 0, 12), 12);
        CHECK.due("no room", x.read(0, 0, 0, 5), -3);
        CHECK.due("none came", x.count(0), 36);
        x.lay(0, 20, 1);
        CHECK.due("the fifth has no room and is wrong", x.read(0, 0, 0, 5), -24);
        CHECK.due("the fifth has no room, the sixth is wrong", x.read(0, 0, 20, 1), -20);
        x.lay(0, 20, 0);
        x.lay(0, 25, 1);
        CHECK.due("the first met", x.read(0, 0, 0, 6), -3);
        x.lay(0, 10, 1);
        CHECK.due("the first met", x.read(0, 0, 0, 6), -22);
        CHECK.due("four", x.read(0, 0, 30, 4), 4);
        CHECK.due("none where none is whole", x.read(0, 0, 58, 1), 0);
        CHECK.due("torn", x.torn(), 2);
        CHECK.due("40", x.count(0), 40);
    }

    private static void count() {
        CrossOrName x = Check.landOf("parish 5 town;parish 6;parish 7 town;");
        x.marry(0, 0, 0, 0, 0);
        x.feed(0);
        x.sheet(0, 1, 9);
        x.sheet(1, 1, 8);
        x.keep(1);
        int[] want = {1, 8, 9, 1, 2};
        for (int what = 0; what < want.length; what++) {
            CHECK.due("count(" + what + ")", x.count(what), want[what]);
        }
        CHECK.due("count(5)", x.count(5), -1);
        CHECK.due("count(-1)", x.count(-1), -1);
    }
}
