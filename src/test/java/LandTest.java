/** Promises 1 to 8: a new object, the tape, the land that it tells. */
public final class LandTest {
    private static final Check CHECK = new Check("LandTest");

    public static void main(String[] args) {
        newObject();
        tape();
        goodTexts();
        faults();
        faultKeepsWhatWas();
        landReplacesWhatWas();
        told();
        parish();
        clerk();
        CHECK.finish();
    }

    private static void newObject() {
        CrossOrName x = new CrossOrName();
        int[] first = {0, 0, 11, 20, 35, 0, 1, 0, 1, 1, 1};
        for (int what = 0; what < first.length; what++) {
            CHECK.due("new told(" + what + ")", x.told(what), first[what]);
        }
        int[] counts = {0, 0, CrossOrName.NONE, 0, 0};
        for (int what = 0; what < counts.length; what++) {
            CHECK.due("new count(" + what + ")", x.count(what), counts[what]);
        }
        CHECK.due("new fault()", x.fault(), 0);
        CHECK.due("new torn()", x.torn(), 0);
        CHECK.due("new parish(0, 0)", x.parish(0, 0), -1);
        CHECK.due("new marry", x.marry(0, 0, 0, 0, 0), -1);
        CHECK.due("new choose of none", x.choose(0, 0, 0, 89, 3, 255), 0);
        CHECK.due("new choose of parish 0", x.choose(0, 1, 0, 89, 3, 255), -1);
        for (int k = 0; k < 4; k++) {
            CHECK.due("new lay(" + k + ")", x.lay(k, 0, 0), -11);
        }
        CHECK.due("new back(0)", x.back(0), -2);
        CHECK.due("new back(1)", x.back(1), -2);
    }

    private static void tape() {
        CrossOrName x = new CrossOrName();
        for (int i = 1; i <= 40; i++) {
            CHECK.due("feed", x.feed(0x2020202020202020L), 8 * i);
        }
        CHECK.due("feed beyond 320", x.feed(0), -3);
        CHECK.due("bytes behind it", x.count(1), 320);
        CHECK.due("end(-1)", x.end(-1), -1);
        CHECK.due("end(321)", x.end(321), -1);
        CHECK.due("end(313)", x.end(313), 320);
        CHECK.due("feed when 7 are free", x.feed(0), -3);
        CHECK.due("end(312)", x.end(312), 313);
        CHECK.due("feed when 8 are free", x.feed(0x6e65766572203720L), 320);
        CHECK.due("end(319)", x.end(319), 320);
        CHECK.due("land of 'never 7' at the end", x.land(), -329);
        CHECK.due("fault", x.fault(), 2);
        CHECK.due("tape behind a fault", x.count(1), 0);
        CHECK.due("feed 'never 7;', the highest byte first", x.feed(0x6e6576657220373bL), 8);
        CHECK.due("land", x.land(), 1);
        CHECK.due("never", x.told(5), 7);
        CHECK.due("tape behind a land", x.count(1), 0);
        CHECK.due("end(0) of nothing", x.end(0), 0);
        CHECK.due("end(1) of nothing", x.end(1), -1);
    }

    private static void goodTexts() {
        good("", 0);
        good("     ", 0);
        good("parish1town mill2school3;", 1);
        good(" parish  1 ; parish 007 ;  ", 2);
        good("parish 999 town;parish 1 mill 0;parish 1 school 89;parish 2 town school 0;", 4);
        good("parish 1;clerk 0 0 89 255 4;clerk 0 89 89 0 0;", 3);
        good("tried cross 0 1;tried name 999 999;", 2);
        good("learn 5;ages 16 60;never 999;picture 8;", 4);
        good("learn 20;ages 60 60;never 0;picture 0;", 4);
        good("parish 1;".repeat(12), 12);
        good("parish 1;" + "clerk 0 0 0 0 0;".repeat(8), 9);
    }

    private static void good(String text, int lines) {
        CrossOrName x = new CrossOrName();
        CHECK.due("land of '" + text + "'", Check.tell(x, text), lines);
        CHECK.due("its fault", x.fault(), 0);
    }

    private static void faults() {
        bad("Parish 1;", 0, 1);
        bad("parish 1\t;", 8, 1);
        bad("parish 1;\u00ff", 9, 1);
        bad("parish -1;", 7, 1);
        bad("parish 0001;", 7, 1);
        bad("1234;", 0, 1);
        bad("parish 1;5000", 9, 1);
        bad(";", 0, 2);
        bad("parish 1;;", 9, 2);
        bad("7;", 0, 2);
        bad("parishes 1;", 0, 2);
        bad("paris 1;", 0, 2);
        bad("xarish 1;", 0, 2);
        bad("parisx 1;", 0, 2);
        bad("parish 1;zz", 9, 2);
        bad("town;", 0, 2);
        bad("parish", 6, 2);
        bad("parish  ", 8, 2);
        bad("parish 1", 8, 2);
        bad("parish 1   ", 11, 2);
        bad("parish ;", 7, 2);
        bad("parish 1 2;", 9, 2);
        bad("parish 1 town town;", 14, 2);
        bad("parish 1 mill 1 town;", 16, 2);
        bad("parish 1 school 1 mill 1;", 18, 2);
        bad("parish 1 mill 1 mill 1;", 16, 2);
        bad("parish 1 mill;", 13, 2);
        bad("parish 1 school town;", 16, 2);
        bad("parish 1;clerk 0 1 2 3;", 22, 2);
        bad("tried crosses 1 1;", 6, 2);
        bad("tried", 5, 2);
        bad("learn;", 5, 2);
        bad("ages 20;", 7, 2);
        bad("parish 0;", 7, 3);
        bad("parish 1 mill 90;", 14, 3);
        bad("parish 1 school 90;", 16, 3);
        bad("parish 1;clerk 1 0 0 0 0;", 15, 3);
        bad("clerk 0 0 0 0 0;parish 1;", 6, 3);
        bad("parish 1;clerk 0 90 90 0 0;", 17, 3);
        bad("parish 1;clerk 0 0 90 0 0;", 19, 3);
        bad("parish 1;clerk 0 9 8 0 0;", 19, 3);
        bad("parish 1;clerk 0 0 0 256 0;", 21, 3);
        bad("parish 1;clerk 0 0 0 0 5;", 23, 3);
        bad("tried cross 0 0;", 14, 3);
        bad("tried name 5 4;", 13, 3);
        bad("learn 4;", 6, 3);
        bad("learn 21;", 6, 3);
        bad("ages 15 20;", 5, 3);
        bad("ages 61 61;", 5, 3);
        bad("ages 16 61;", 8, 3);
        bad("ages 30 29;", 8, 3);
        bad("picture 9;", 8, 3);
        bad("learn 5;learn 5;", 8, 4);
        bad("ages 16 16;ages 16 16;", 11, 4);
        bad("never 1;picture 1;never 1;", 18, 4);
        bad("picture 1;picture 1;", 10, 4);
        bad("tried cross 1 1;tried name 1 1;tried cross 1 1;", 37, 4);
        bad("tried name 1 1;tried name 1 1;", 21, 4);
        bad("parish 1;".repeat(13), 108, 5);
        bad("parish 1;" + "clerk 0 0 0 0 0;".repeat(9), 137, 5);
        // what stands behind a token is not yet read when it is taken
        bad("parish 0 $", 7, 3);
        bad("learn 5;learn $", 8, 4);
        bad("tried cross 1 1;tried cross $", 22, 4);
        bad("parish 1;".repeat(12) + "parish $", 108, 5);
        bad("parish 1 $", 9, 1);
        bad("ages 60 9999", 8, 1);
    }

    private static void bad(String text, int place, int fault) {
        CrossOrName x = new CrossOrName();
        CHECK.due("land of '" + text + "'", Check.tell(x, text), -10 - place);
        CHECK.due("its fault", x.fault(), fault);
        CHECK.due("the tape behind it", x.count(1), 0);
        CHECK.due("parishes behind it", x.told(0), 0);
        CHECK.due("clerks behind it", x.told(1), 0);
        CHECK.due("learn behind it", x.told(2), 11);
    }

    private static void faultKeepsWhatWas() {
        CrossOrName x = Check.landOf("parish 5 town;parish 6;clerk 1 2 3 4 1;learn 9;never 3;");
        x.marry(1, 2, 3, 1, 0);
        x.choose(1, 1, 0, 10, 1, 1);
        CHECK.due("land with a fault", Check.tell(x, "parish 9;learn 7;picture 9;"), -35);
        CHECK.due("fault", x.fault(), 3);
        CHECK.due("parishes stay", x.told(0), 2);
        CHECK.due("clerks stay", x.told(1), 1);
        CHECK.due("learn stays", x.told(2), 9);
        CHECK.due("never stays", x.told(5), 3);
        CHECK.due("parish(0, 0) stays", x.parish(0, 0), 5);
        CHECK.due("marriages stay", x.count(0), 1);
        CHECK.due("choice 1 stays", x.many(1, 0), 0);
        CHECK.due("an empty land is taken", x.land(), 0);
        CHECK.due("fault of it", x.fault(), 0);
        CHECK.due("parishes of it", x.told(0), 0);
    }

    private static void landReplacesWhatWas() {
        CrossOrName x = Check.landOf("parish 5;parish 6;clerk 0 0 9 0 0;learn 9;ages 30 40;never 3;picture 4;"
                + "tried cross 1 2;tried name 3 4;");
        x.marry(0, 0, 0, 1, 1);
        x.choose(0, 1, 3, 4, 1, 1);
        x.choose(1, 0, 3, 4, 0, 0);
        x.keep(1);
        x.sheet(0, 0, 7);
        x.read(1, 0, 0, 1);
        CHECK.due("land", Check.tell(x, "parish 7;parish 8;parish 9;"), 3);
        int[] again = {3, 0, 11, 20, 35, 0, 1, 0, 1, 1, 1};
        for (int what = 0; what < again.length; what++) {
            CHECK.due("told(" + what + ") again", x.told(what), again[what]);
        }
        CHECK.due("marriages go", x.count(0), 0);
        CHECK.due("images stay", x.count(3), 1);
        CHECK.due("sheets stay", x.count(2), 7);
        CHECK.due("torn stays", x.torn(), 1);
        x.marry(2, 89, 7, 0, 1);
        CHECK.due("choice 0 as at first", x.many(0, 0), 2);
        CHECK.due("choice 1 as at first", x.many(1, 0), 2);
    }

    private static void told() {
        CrossOrName x = Check.landOf("parish 5;parish 6;clerk 0 0 9 0 0;learn 9;ages 30 40;never 3;picture 4;"
                + "tried cross 2 4;tried name 6 8;");
        int[] want = {2, 1, 9, 30, 40, 3, 4, 2, 4, 6, 8};
        for (int what = 0; what < want.length; what++) {
            CHECK.due("told(" + what + ")", x.told(what), want[what]);
        }
        CHECK.due("told(-1)", x.told(-1), -1);
        CHECK.due("told(11)", x.told(11), -1);
    }

    private static void parish() {
        CrossOrName x = Check.landOf("parish 5 town mill 0 school 89;parish 999;");
        x.marry(1, 0, 0, 0, 0);
        x.marry(1, 0, 0, 0, 0);
        int[][] want = {{5, 1, 0, 89, 0}, {999, 0, -4, -4, 2}};
        for (int p = 0; p < 2; p++) {
            for (int what = 0; what < 5; what++) {
                CHECK.due("parish(" + p + ", " + what + ")", x.parish(p, what), want[p][what]);
            }
        }
        CHECK.due("parish(-1, 0)", x.parish(-1, 0), -1);
        CHECK.due("parish(2, 0)", x.parish(2, 0), -1);
        CHECK.due("parish(0, 5)", x.parish(0, 5), -1);
        CHECK.due("parish(0, -1)", x.parish(0, -1), -1);
        CHECK.due("towns", x.count(4), 1);
    }

    private static void clerk() {
        CrossOrName x = Check.landOf("parish 5;parish 6;clerk 1 10 20 15 1;clerk 1 20 30 15 4;");
        int[][] want = {{1, 10, 20, 15, 1}, {1, 20, 30, 15, 4}};
        for (int k = 0; k < 2; k++) {
            for (int what = 0; what < 5; what++) {
                CHECK.due("clerk(" + k + ", " + what + ")", x.clerk(k, what), want[k][what]);
            }
        }
        x.marry(1, 20, 0, 1, 1);
        x.set(0, 0, 2, 14);
        x.set(0, 1, 2, 12);
        CHECK.due("clerk(0, 5): the first that fits", x.clerk(0, 5), 1);
        CHECK.due("clerk(1, 5): the other", x.clerk(1, 5), 1);
        CHECK.due("clerk(-1, 0)", x.clerk(-1, 0), -1);
        CHECK.due("clerk(2, 0)", x.clerk(2, 0), -1);
        CHECK.due("clerk(0, 6)", x.clerk(0, 6), -1);
        CHECK.due("clerk(0, -1)", x.clerk(0, -1), -1);
    }
}
