import java.util.List;

/** The boundary cases of the tape, of a land's text, and of promises 1 to 8. */
public final class LandEdgesTest {
    private static final Check CHECK = new Check("LandEdgesTest");
    private static final int BAD = CrossOrName.BAD, STATE = CrossOrName.STATE, FULL = CrossOrName.FULL,
            NONE = CrossOrName.NONE;

    public static void main(String[] args) {
        newObjectHasNoParishes();
        newObjectHasNoMarks();
        newObjectHasNoSheetsNorImages();
        the512thCallIsAnsweredAsTheFirst();
        feedTakesTheHighestByteFirst();
        feedIsFullBeyond320();
        feedRefusedKeepsTheTape();
        endCutsTheTape();
        everyByteAlone();
        blanks();
        namesAreAsLongAsMayBe();
        numbersHaveThreeFiguresAtMost();
        numbersAtTheirBounds();
        numbersBeyondTheirBounds();
        boundsThatDependOnAnotherNumber();
        eachTokenInEachPlace();
        theEndIsWhereTheTapeEnds();
        theFirstFaultMet();
        secondTimes();
        mostParishesAndClerks();
        mostLines();
        aFaultChangesTheTapeAndTheFaultAlone();
        aLandThatIsTakenLeavesImagesAndSheets();
        aLandOfNothing();
        whatNoLineTellsIsAsAtFirst();
        faultIsOfTheLatestLand();
        partsOfTriedByThemselves();
        parishAtItsBounds();
        clerkAtItsBounds();
        CHECK.finish();
    }

    // ---- promise 1

    private static void newObjectHasNoParishes() {
        CrossOrName x = new CrossOrName();
        for (int what = 0; what <= 4; what++) {
            CHECK.due("parish 0 of none", x.parish(0, what), BAD);
            CHECK.due("clerk 0 of none", x.clerk(0, what), BAD);
        }
        CHECK.due("marry in none", x.marry(0, 0, 0, 0, 0), BAD);
        CHECK.due("find in none", x.find(0, 0, 0), BAD);
        CHECK.due("a choice of none of them", x.choose(0, 0, 0, 89, 3, 255), 0);
        CHECK.due("a choice of the first", x.choose(0, 1, 0, 89, 3, 255), BAD);
        CHECK.due("span by none of them", x.span(0, 0), NONE);
        CHECK.due("span by the first", x.span(1, 0), BAD);
        CHECK.due("next to none", x.next(0), NONE);
        CHECK.due("next to the first", x.next(1), BAD);
        CHECK.due("enough of none", x.enough(1, 1, 0), NONE);
        CHECK.due("enough of none, which", x.enough(0, 1, 1), NONE);
    }

    private static void newObjectHasNoMarks() {
        CrossOrName x = new CrossOrName();
        CHECK.due("of", x.of(0, 0), BAD);
        CHECK.due("has", x.has(0, 0, 0), BAD);
        CHECK.due("set", x.set(0, 0, 0, 0), BAD);
        CHECK.due("kind", x.kind(0, 0), BAD);
        CHECK.due("writer", x.writer(0, 0), BAD);
        CHECK.due("tear", x.tear(0), BAD);
        for (int c = 0; c <= 1; c++) {
            CHECK.due("many", x.many(c, 0), 0);
            CHECK.due("many of a kind", x.many(c, 15), 0);
            CHECK.due("share", x.share(c, 0), NONE);
            CHECK.due("best", x.best(c, 0, 1, 0), NONE);
            CHECK.due("pairs", x.pairs(c, 3), 0);
            CHECK.due("spared", x.spared(c, 1), NONE);
            CHECK.due("learnt", x.learnt(c, -60, 89, 1), 0);
            CHECK.due("bounds, the least", x.bounds(c, -60, 89, 1), NONE);
            CHECK.due("bounds, the greatest", x.bounds(c, -60, 89, 2), NONE);
            CHECK.due("tens", x.tens(c, 0), -1004);
            CHECK.due("tens, how many", x.tens(c, 1), -1004);
            CHECK.due("reading", x.reading(c, 1), NONE);
            CHECK.due("unwed", x.unwed(c, 3), NONE);
        }
        CHECK.due("parts", x.parts(3, 5), NONE);
        CHECK.due("worth", x.worth(1, 89, 1), -1000004);
        CHECK.due("person's marks", x.person(1, 0), 0);
        CHECK.due("person's names apart", x.person(99, 4), NONE);
        CHECK.due("twice", x.twice(0), 0);
        CHECK.due("twice, the least", x.twice(1), NONE);
        CHECK.due("twice, both", x.twice(2), 0);
    }

    private static void newObjectHasNoSheetsNorImages() {
        CrossOrName x = new CrossOrName();
        for (int k = 0; k <= 3; k++) {
            CHECK.due("lay on nothing", x.lay(k, 0, 0), -11);
            CHECK.due("read of nothing", x.read(k, k % 3, 0, 1), 0);
            CHECK.due("is torn: null", x.torn(), 1);
        }
        CHECK.due("cells of sheet 0", x.count(2), NONE);
        CHECK.due("back to image 0", x.back(0), STATE);
        CHECK.due("back to image 1", x.back(1), STATE);
        CHECK.due("images", x.count(3), 0);
    }

    private static void the512thCallIsAnsweredAsTheFirst() {
        CrossOrName x = new CrossOrName();
        int calls = 0;
        for (int round = 0; round < 85; round++) {
            CHECK.due("feed 'parish 9'", x.feed(0x7061726973682039L), 8);
            CHECK.due("feed ';'", x.feed(0x3b20202020202020L), 16);
            CHECK.due("land", x.land(), 1);
            CHECK.due("marry", x.marry(0, round, 0, 1, 0), 0);
            CHECK.due("keep", x.keep(1), round == 0 ? 0 : 1);
            CHECK.due("parish", x.parish(0, 0), 9);
            calls += 6;
        }
        CHECK.due("call number 511", x.back(1), 1);
        CHECK.due("call number 512", x.of(0, 1), 84);
        CHECK.due("calls", calls + 2, 512);
    }

    // ---- promises 2 and 3, the tape

    private static void feedTakesTheHighestByteFirst() {
        long[][] fed = {{0xff20202020202020L, 0}, {0x20202020202020ffL, 7}, {0x2020202000202020L, 4}, {Long.MIN_VALUE, 0},
            {Long.MAX_VALUE, 0}, {0, 0}, {-1, 0}, {0x2020202020202080L, 7}, {0x202020207f202020L, 4}};
        for (long[] f : fed) {
            CrossOrName x = new CrossOrName();
            CHECK.due("feed(" + f[0] + ")", x.feed(f[0]), 8);
            CHECK.due("the place of its fault", x.land(), -10 - f[1]);
            CHECK.due("no token", x.fault(), 1);
        }
    }

    private static void feedIsFullBeyond320() {
        CrossOrName x = new CrossOrName();
        for (int i = 1; i <= 40; i++) {
            CHECK.due("feed number " + i, x.feed(0x2020202020202020L), 8 * i);
        }
        CHECK.due("feed number 41", x.feed(Long.MAX_VALUE), FULL);
        CHECK.due("feed number 42", x.feed(Long.MIN_VALUE), FULL);
        for (int free = 1; free <= 7; free++) {
            x.end(320 - free);
            CHECK.due("feed with " + free + " bytes free", x.feed(0), FULL);
            CHECK.due("bytes", x.count(1), 320 - free);
        }
        CHECK.due("end(312)", x.end(312), 313);
        CHECK.due("feed with 8 bytes free", x.feed(0x2020202020202020L), 320);
        CHECK.due("a tape of 320 blanks", x.land(), 0);
        CHECK.due("feed behind it", x.feed(0), 8);
    }

    private static void feedRefusedKeepsTheTape() {
        CrossOrName x = new CrossOrName();
        Check.feed(x, " ".repeat(311) + "learn 12;");
        CHECK.due("feed to a full tape", x.feed(-1), FULL);
        CHECK.due("land of what it had", x.land(), 1);
        CHECK.due("learn", x.told(2), 12);
    }

    private static void endCutsTheTape() {
        CrossOrName x = new CrossOrName();
        CHECK.due("end(0) of nothing", x.end(0), 0);
        CHECK.due("end(1) of nothing", x.end(1), BAD);
        CHECK.due("end(-1) of nothing", x.end(-1), BAD);
        Check.feed(x, "never 7;");
        CHECK.due("end(9)", x.end(9), BAD);
        CHECK.due("end(-1)", x.end(-1), BAD);
        CHECK.due("end, smallest", x.end(Integer.MIN_VALUE), BAD);
        CHECK.due("end, largest", x.end(Integer.MAX_VALUE), BAD);
        CHECK.due("bytes as they were", x.count(1), 8);
        CHECK.due("end(8) of 8", x.end(8), 8);
        CHECK.due("end(6)", x.end(6), 8);
        CHECK.due("bytes", x.count(1), 6);
        CHECK.due("end(7): that is gone", x.end(7), BAD);
        CHECK.due("feed '9;' behind 'never '", x.feed(0x393b202020202020L), 14);
        CHECK.due("land", x.land(), 1);
        CHECK.due("never", x.told(5), 9);
        Check.feed(x, "$$$$");
        CHECK.due("end(0)", x.end(0), 4);
        CHECK.due("nothing is left", x.land(), 0);
    }

    // ---- the tokens

    private static void everyByteAlone() {
        for (int b = 0; b <= 255; b++) {
            boolean known = b >= 'a' && b <= 'z' || b >= '0' && b <= '9' || b == ';';
            expect(String.valueOf((char) b), b == ' ' ? 0 : -10, b == ' ' ? 0 : known ? 2 : 1);
        }
    }

    private static void expect(String text, int answer, int fault) {
        CrossOrName x = new CrossOrName();
        CHECK.due("land of '" + text + "'", Check.tell(x, text), answer);
        CHECK.due("fault of '" + text + "'", x.fault(), fault);
        CHECK.due("the tape is empty then", x.count(1), 0);
    }

    private static void blanks() {
        expect(" ".repeat(300) + "learn 5;" + " ".repeat(12), 1, 0);
        expect("learn" + " ".repeat(313) + "5;", 1, 0);
        expect("learn5" + " ".repeat(313) + ";", 1, 0);
        expect("learn5;ages16 60;never0;picture8;", 4, 0);
        expect("parish1town mill2school3;parish4school5;", 2, 0);
        expect("parish1town", -21, 2);
        expect("parish1townmill2;", -17, 2);
        expect("triedcross 1 1;", -10, 2);
        expect("tried cross1 1;", 1, 0);
        expect("ages1660;", -14, 1);
        expect("ages166;", -14, 3);
        expect("ages16;", -16, 2);
    }

    private static void namesAreAsLongAsMayBe() {
        expect("parishe 1;", -10, 2);
        expect("paris h 1;", -10, 2);
        expect("learnn 5;", -10, 2);
        expect("lear n 5;", -10, 2);
        expect("a".repeat(320), -10, 2);
        expect("parish 1 towns;", -19, 2);
        expect("parish 1 tow;", -19, 2);
        expect("tried crossname 1 1;", -16, 2);
        expect("tried nam 1 1;", -16, 2);
    }

    private static void numbersHaveThreeFiguresAtMost() {
        expect("parish 1;", 1, 0);
        expect("parish 12;", 1, 0);
        expect("parish 123;", 1, 0);
        expect("parish 1234;", -17, 1);
        expect("parish 0001;", -17, 1);
        expect("learn 005;", 1, 0);
        expect("learn 0005;", -16, 1);
        // 5 and what wraps around to 5 in 32 and in 64 bits
        expect("learn 4294967301;", -16, 1);
        expect("learn 18446744073709551621;", -16, 1);
        expect("9".repeat(320), -10, 1);
        expect("parish 1;0000", -19, 1);
        expect("parish 1 0000", -19, 1);
    }

    // ---- the numbers of a line

    private static void told(String text, int what, int want) {
        CrossOrName x = new CrossOrName();
        CHECK.due("land of '" + text + "'", Check.tell(x, text) > 0 ? 1 : 0, 1);
        CHECK.due("fault of '" + text + "'", x.fault(), 0);
        CHECK.due("told(" + what + ") by '" + text + "'", x.told(what), want);
    }

    private static void ofParish(String text, int what, int want) {
        CrossOrName x = Check.landOf(text);
        CHECK.due("parish(0, " + what + ") by '" + text + "'", x.parish(0, what), want);
    }

    private static void ofClerk(String text, int what, int want) {
        CrossOrName x = Check.landOf(text);
        CHECK.due("clerk(0, " + what + ") by '" + text + "'", x.clerk(0, what), want);
    }

    private static void numbersAtTheirBounds() {
        ofParish("parish 1;", 0, 1);
        ofParish("parish 999;", 0, 999);
        ofParish("parish 5 mill 0;", 2, 0);
        ofParish("parish 5 mill 89;", 2, 89);
        ofParish("parish 5 school 0;", 3, 0);
        ofParish("parish 5 school 89;", 3, 89);
        ofClerk("parish 5;clerk 0 0 89 255 4;", 1, 0);
        ofClerk("parish 5;clerk 0 0 89 255 4;", 2, 89);
        ofClerk("parish 5;clerk 0 0 89 255 4;", 3, 255);
        ofClerk("parish 5;clerk 0 0 89 255 4;", 4, 4);
        ofClerk("parish 5;clerk 0 89 89 0 0;", 1, 89);
        ofClerk("parish 5;clerk 0 0 0 0 0;", 2, 0);
        ofClerk("parish 5;clerk 0 0 0 0 0;", 3, 0);
        ofClerk("parish 5;clerk 0 0 0 0 0;", 4, 0);
        told("tried cross 0 1;", 7, 0);
        told("tried cross 0 1;", 8, 1);
        told("tried cross 0 999;", 8, 999);
        told("tried name 999 999;", 9, 999);
        told("tried name 999 999;", 10, 999);
        told("learn 5;", 2, 5);
        told("learn 20;", 2, 20);
        told("ages 16 16;", 3, 16);
        told("ages 16 16;", 4, 16);
        told("ages 60 60;", 3, 60);
        told("ages 16 60;", 4, 60);
        told("never 0;", 5, 0);
        told("never 999;", 5, 999);
        told("picture 0;", 6, 0);
        told("picture 8;", 6, 8);
    }

    private static void numbersBeyondTheirBounds() {
        expect("parish 0;", -17, 3);
        expect("parish 1000;", -17, 1);
        expect("parish 5 mill 90;", -24, 3);
        expect("parish 5 mill 999;", -24, 3);
        expect("parish 5 school 90;", -26, 3);
        expect("parish 5;clerk 0 90 90 0 0;", -27, 3);
        expect("parish 5;clerk 0 0 90 0 0;", -29, 3);
        expect("parish 5;clerk 0 0 0 256 0;", -31, 3);
        expect("parish 5;clerk 0 0 0 0 5;", -33, 3);
        expect("tried cross 1000 1000;", -22, 1);
        expect("tried cross 0 0;", -24, 3);
        expect("tried name 999 1000;", -25, 1);
        expect("learn 4;", -16, 3);
        expect("learn 21;", -16, 3);
        expect("ages 15 60;", -15, 3);
        expect("ages 61 61;", -15, 3);
        expect("ages 16 61;", -18, 3);
        expect("ages 16 15;", -18, 3);
        expect("never 1000;", -16, 1);
        expect("picture 9;", -18, 3);
    }

    private static void boundsThatDependOnAnotherNumber() {
        expect("clerk 0 0 0 0 0;", -16, 3);
        expect("parish 5;clerk 0 0 0 0 0;", 2, 0);
        expect("parish 5;clerk 1 0 0 0 0;", -25, 3);
        expect("parish 5;clerk 1 0 0 0 0;parish 5;", -25, 3);
        expect("parish 5;parish 5;clerk 1 0 0 0 0;", 3, 0);
        expect("parish 5;".repeat(12) + "clerk 11 0 0 0 0;", 13, 0);
        expect("parish 5;".repeat(12) + "clerk 12 0 0 0 0;", -124, 3);
        expect("parish 5;clerk 0 40 40 0 0;", 2, 0);
        expect("parish 5;clerk 0 40 39 0 0;", -30, 3);
        expect("tried cross 7 7;", 1, 0);
        expect("tried cross 7 6;", -24, 3);
        expect("tried name 1 0;", -23, 3);
        expect("ages 40 40;", 1, 0);
        expect("ages 40 39;", -18, 3);
    }

    // ---- faults

    /** Each token of each line in turn gives way to one that can not stand there, to no token, and to the end. */
    private static void eachTokenInEachPlace() {
        String[] lines = {"parish 5 town mill 1 school 2 ;", "parish 5 ;", "clerk 0 1 2 3 4 ;", "tried cross 1 2 ;",
            "tried name 1 2 ;", "learn 5 ;", "ages 20 30 ;", "never 5 ;", "picture 5 ;"};
        for (String line : lines) {
            expect("parish 1;" + line, 2, 0);
            String[] tokens = line.split(" ");
            int place = "parish 1;".length();
            for (String token : tokens) {
                String ahead = "parish 1;" + line.substring(0, place - "parish 1;".length());
                String behind = line.substring(ahead.length() - "parish 1;".length() + token.length());
                boolean first = ahead.endsWith(";");
                boolean optional = token.equals("town") || token.equals("mill") || token.equals("school");
                boolean number = Character.isDigit(token.charAt(0));
                expect(ahead + "$" + behind, -10 - place, 1);
                expect(ahead + "1234" + behind, -10 - place, 1);
                expect(ahead + "zzz" + behind, -10 - place, 2);
                if (!number) {
                    expect(ahead + "7" + behind, -10 - place, 2);
                }
                if (!optional && !token.equals(";")) {
                    expect(ahead + ";" + behind, -10 - place, 2);
                }
                expect(ahead, first ? 1 : -10 - place, first ? 0 : 2);
                place += token.length() + 1;
            }
        }
    }

    private static void theEndIsWhereTheTapeEnds() {
        expect("parish", -16, 2);
        expect("parish ", -17, 2);
        expect("parish 5", -18, 2);
        expect("parish 5 town", -23, 2);
        expect("parish 5 mill", -23, 2);
        expect("parish 5;clerk 0 0 0 0", -32, 2);
        expect("tried", -15, 2);
        expect("tried cross 1", -23, 2);
        expect("learn 5;learn", -18, 4);
        expect(" ".repeat(315) + "learn", -330, 2);
        expect("learn" + " ".repeat(315), -330, 2);
        expect(" ".repeat(319) + "$", -329, 1);
        expect(" ".repeat(319) + ";", -329, 2);
    }

    private static void theFirstFaultMet() {
        // a token is read when the one before has been taken
        expect("parish 0$", -17, 3);
        expect("parish 5$", -18, 1);
        expect("parish 0 1234;", -17, 3);
        expect("zzz$", -10, 2);
        expect("; $", -10, 2);
        expect("tried zzz$", -16, 2);
        expect("tried $", -16, 1);
        expect("tried 1234", -16, 1);
        expect("tried 123", -16, 2);
        expect("learn 5 learn 5;", -18, 2);
        expect("learn learn 5;", -16, 2);
        expect("parish 5 mill 90$", -24, 3);
        expect("parish 5 town$", -23, 1);
        expect("ages 61 9999", -15, 3);
        expect("ages 60 9999", -18, 1);
        expect("parish 5;clerk 1 90 90 256 5;", -25, 3);
        expect("parish 5;parish 0;learn 4;", -26, 3);
        expect("tried cross 1 0;tried cross 1 1;", -24, 3);
    }

    private static void secondTimes() {
        expect("learn 5;learn 21;", -18, 4);
        expect("learn 5;learn$", -18, 4);
        expect("ages 16 16;ages;", -21, 4);
        expect("never 0;never 0;", -18, 4);
        expect("picture 1;picture 1;", -20, 4);
        expect("tried cross 1 1;tried cross 1 1;", -32, 4);
        expect("tried name 1 1;tried name$", -31, 4);
        expect("tried name 1 1;tried cross 1 1;", 2, 0);
        expect("learn 5;ages 16 16;never 0;picture 1;tried cross 0 1;tried name 1 1;learn 5;", -78, 4);
        // what was told in a text ahead is not a first time
        CrossOrName x = Check.landOf("learn 5;tried cross 1 2;");
        CHECK.due("learn in the next text", Check.tell(x, "learn 6;tried cross 1 3;"), 2);
        CHECK.due("learn", x.told(2), 6);
        CHECK.due("a text with a fault", Check.tell(x, "learn 7;$"), -18);
        CHECK.due("learn behind a text with a fault", Check.tell(x, "learn 8;"), 1);
        CHECK.due("learn", x.told(2), 8);
    }

    private static void mostParishesAndClerks() {
        CrossOrName x = Check.landOf("parish 5;".repeat(12));
        CHECK.due("12 parishes", x.told(0), 12);
        expect("parish 5;".repeat(13), -118, 5);
        expect("parish 5;".repeat(12) + "parish$", -118, 5);
        expect("parish 5;".repeat(12) + "parish 0;", -118, 5);
        expect("parish 5;".repeat(12) + "parishes", -118, 2);
        CrossOrName y = Check.landOf("parish 5;" + "clerk 0 0 0 0 0;".repeat(8));
        CHECK.due("8 clerks", y.told(1), 8);
        expect("parish 5;" + "clerk 0 0 0 0 0;".repeat(9), -147, 5);
        expect("parish 5;" + "clerk 0 0 0 0 0;".repeat(8) + "clerk$", -147, 5);
        expect("parish 5;" + "clerk 0 0 0 0 0;".repeat(8) + "clerk 9 0 0 0 0;", -147, 5);
        expect("parish 5;" + "clerk 0 0 0 0 0;".repeat(8) + "learn 5;", 10, 0);
    }

    private static void mostLines() {
        String all = "parish9;".repeat(12) + "clerk11 0 0 0 0;".repeat(8)
                + "tried cross0 1;tried name0 1;learn5;ages16 16;never0;picture0;";
        CrossOrName x = new CrossOrName();
        CHECK.due("every line there may be", Check.tell(x, all), 26);
        CHECK.due("the last parish", x.parish(11, 0), 9);
        CHECK.due("the last clerk", x.clerk(7, 0), 11);
        CHECK.due("every line on a full tape", Check.tell(x, all + " ".repeat(320 - all.length())), 26);
        CHECK.due("picture", x.told(6), 0);
        for (String more : new String[] {"parish", "clerk"}) {
            expect(all + more, -10 - all.length(), 5);
        }
        for (String more : new String[] {"learn", "ages", "never", "picture"}) {
            expect(all + more, -10 - all.length(), 4);
        }
    }

    // ---- promise 4, what a land does to the rest

    private static void aFaultChangesTheTapeAndTheFaultAlone() {
        List<String> untouched = Everything.of(Everything.rich());
        String[] texts = {"$", ";", "parish 0;", "learn 7;learn 7;", "parish 9;".repeat(13),
            "parish 9 town;learn 7;ages 50 51;never 9;picture 9;tried cross 1 1;$", "parish 1;clerk 0 0 0 0 0;clerk 1"};
        int[] answers = {-10, -10, -17, -18, -118, -59, -41};
        int[] faults = {1, 2, 3, 4, 5, 3, 3};
        for (int i = 0; i < texts.length; i++) {
            CrossOrName x = Everything.rich();
            x.end(0);
            CHECK.due("land of '" + texts[i] + "'", Check.tell(x, texts[i]), answers[i]);
            CHECK.due("its fault", x.fault(), faults[i]);
            CHECK.due("bytes", x.count(1), 0);
            String difference = Everything.difference(untouched, Everything.of(x), "fault", "count 1", "bytes", "land",
                    "its");
            CHECK.due("it changed " + difference, difference.length(), 0);
        }
    }

    private static void aLandThatIsTakenLeavesImagesAndSheets() {
        CrossOrName x = Everything.rich();
        x.end(0);
        CHECK.due("land", Check.tell(x, "parish 1;parish 2;parish 3;"), 3);
        int[] first = {3, 0, 11, 20, 35, 0, 1, 0, 1, 1, 1};
        for (int what = 0; what < first.length; what++) {
            CHECK.due("told(" + what + ") as at first", x.told(what), first[what]);
        }
        CHECK.due("town of a parish that had one", x.parish(0, 1), 0);
        CHECK.due("mill of a parish that had one", x.parish(0, 2), NONE);
        CHECK.due("school of a parish that had one", x.parish(1, 3), NONE);
        CHECK.due("a clerk of before", x.clerk(0, 0), BAD);
        CHECK.due("all marriages go", x.count(0), 0);
        CHECK.due("of the first", x.of(0, 0), BAD);
        CHECK.due("images stay", x.count(3), 1);
        CHECK.due("sheets stay", x.count(2), 12);
        CHECK.due("the fault of the latest read stays", x.torn(), 2);
        for (int p = 0; p < 3; p++) {
            x.marry(p, p == 0 ? 0 : 89, p == 0 ? 0 : 7, 1, 0);
        }
        CHECK.due("choice 0 is all", x.many(0, 0), 6);
        CHECK.due("choice 1 is all", x.many(1, 0), 6);
        CHECK.due("a sheet's cells stay", x.read(0, 0, 0, 2), 2);
        CHECK.due("its year", x.of(3, 1), 70);
        CHECK.due("an image's marriages stay", x.back(0), 6);
        CHECK.due("its choice stays", x.many(0, 0), 10);
    }

    private static void aLandOfNothing() {
        CrossOrName x = Everything.rich();
        x.end(0);
        CHECK.due("a land of no lines is taken", x.land(), 0);
        CHECK.due("no fault", x.fault(), 0);
        CHECK.due("no parishes", x.told(0), 0);
        CHECK.due("no marriages", x.count(0), 0);
        CHECK.due("no towns", x.count(4), 0);
        CHECK.due("no marry", x.marry(0, 0, 0, 0, 0), BAD);
        CHECK.due("never as at first", x.told(5), 0);
        CHECK.due("an image of parishes that there are not", x.back(0), STATE);
        CHECK.due("a choice of a parish that there is not", x.choose(0, 1, 0, 89, 3, 255), BAD);
        CHECK.due("choice 1 is as at first", x.many(1, 0), 0);
        CHECK.due("span", x.span(0, 0), NONE);
    }

    /** Whatever was told in any text ahead, taken or not. */
    private static void whatNoLineTellsIsAsAtFirst() {
        String all = "parish 5 town mill 1 school 2;clerk 0 1 2 3 4;learn 7;ages 17 18;never 8;picture 3;"
                + "tried cross 4 5;tried name 6 7;";
        String[][] ahead = {{all}, {all, all}, {all, ""}, {all, "", all}, {all + "$"}, {all, all + "$"}, {all + "$", all}};
        int[] first = {0, 0, 11, 20, 35, 0, 1, 0, 1, 1, 1};
        for (String[] texts : ahead) {
            CrossOrName x = new CrossOrName();
            for (String text : texts) {
                Check.tell(x, text);
            }
            CHECK.due("a land of no lines", x.land(), 0);
            for (int what = 0; what < first.length; what++) {
                CHECK.due("told(" + what + ") behind " + texts.length + " texts", x.told(what), first[what]);
            }
            CHECK.due("a parish alone", Check.tell(x, "parish 6;"), 1);
            CHECK.due("its town", x.parish(0, 1), 0);
            CHECK.due("its mill", x.parish(0, 2), NONE);
            CHECK.due("its school", x.parish(0, 3), NONE);
            CHECK.due("its clerk", x.clerk(0, 0), BAD);
            for (int what = 1; what < first.length; what++) {
                CHECK.due("told(" + what + ") beside it", x.told(what), first[what]);
            }
        }
    }

    private static void faultIsOfTheLatestLand() {
        CrossOrName x = new CrossOrName();
        CHECK.due("ahead of a land", x.fault(), 0);
        CHECK.due("a fault", Check.tell(x, "learn 21;"), -16);
        CHECK.due("3", x.fault(), 3);
        CHECK.due("asked again", x.fault(), 3);
        x.feed(-1);
        CHECK.due("feeding leaves it", x.fault(), 3);
        CHECK.due("another fault", x.land(), -10);
        CHECK.due("1", x.fault(), 1);
        CHECK.due("a land without", x.land(), 0);
        CHECK.due("0", x.fault(), 0);
    }

    // ---- promises 6 to 8

    private static void partsOfTriedByThemselves() {
        CrossOrName x = Check.landOf("tried cross 2 4;");
        int[] want = {2, 4, 1, 1};
        for (int i = 0; i < 4; i++) {
            CHECK.due("told(" + (7 + i) + ")", x.told(7 + i), want[i]);
        }
        CrossOrName y = Check.landOf("tried name 0 9;");
        int[] other = {0, 1, 0, 9};
        for (int i = 0; i < 4; i++) {
            CHECK.due("told(" + (7 + i) + ")", y.told(7 + i), other[i]);
        }
        int[] wrong = {-1, 11, Integer.MIN_VALUE, Integer.MAX_VALUE};
        for (int what : wrong) {
            CHECK.due("told(" + what + ")", y.told(what), BAD);
        }
    }

    private static void parishAtItsBounds() {
        CrossOrName x = Check.landOf("parish 1;".repeat(11) + "parish 999 town mill 89 school 0;");
        int[] want = {999, 1, 89, 0, 0};
        for (int what = 0; what < want.length; what++) {
            CHECK.due("parish(11, " + what + ")", x.parish(11, what), want[what]);
        }
        CHECK.due("parish(12, 0)", x.parish(12, 0), BAD);
        CHECK.due("parish(0, 1)", x.parish(0, 1), 0);
        CHECK.due("parish(0, 2)", x.parish(0, 2), NONE);
        CHECK.due("parish(0, 3)", x.parish(0, 3), NONE);
        for (int m = 0; m < 40; m++) {
            x.marry(11, 0, 0, 0, 0);
        }
        CHECK.due("a full book", x.parish(11, 4), 40);
        CHECK.due("an empty one", x.parish(10, 4), 0);
        x.tear(0);
        CHECK.due("one less", x.parish(11, 4), 39);
    }

    private static void clerkAtItsBounds() {
        CrossOrName x = Check.landOf("parish 1;" + "clerk 0 0 0 0 0;".repeat(7) + "clerk 0 0 89 0 4;");
        CHECK.due("clerk(7, 4)", x.clerk(7, 4), 4);
        CHECK.due("clerk(8, 4)", x.clerk(8, 4), BAD);
        CHECK.due("no marks yet", x.clerk(7, 5), 0);
        for (int m = 0; m < 40; m++) {
            x.marry(0, 89, 0, 1, 1);
        }
        CHECK.due("all 80 marks", x.clerk(7, 5), 80);
        CHECK.due("none is by the first", x.clerk(0, 5), 0);
        x.set(0, 0, 2, 15);
        x.set(0, 1, 2, 31);
        CHECK.due("4 bits apart is written, 5 is not", x.clerk(7, 5), 79);
        x.set(1, 0, 0, 0);
        CHECK.due("a cross is not", x.clerk(7, 5), 78);
    }
}
