/** The boundary cases of who stands there twice: promises 33 to 35. */
public final class PersonsEdgesTest {
    private static final Check CHECK = new Check("PersonsEdgesTest");
    private static final int BAD = CrossOrName.BAD, NONE = CrossOrName.NONE;
    private static final int SMALLEST = Integer.MIN_VALUE, LARGEST = Integer.MAX_VALUE;

    public static void main(String[] args) {
        personArguments();
        laterIsInALaterYear();
        personBothWays();
        apartOfFewerThanTwoNames();
        apartOfManyNames();
        personInAFullBook();
        twiceAtItsBounds();
        twiceOfAllPersons();
        twiceOfBoth();
        twiceArguments();
        findAtTheBoundOfApart();
        findTheLeastHand();
        findOfNoNames();
        findInAFullBook();
        findArguments();
        CHECK.finish();
    }

    private static void person(CrossOrName x, int p, int... want) {
        for (int what = 0; what < want.length; what++) {
            CHECK.due("person(" + p + ", " + what + ")", x.person(p, what), want[what]);
        }
    }

    // ---- promise 33

    private static void personArguments() {
        CrossOrName x = Check.landOf("parish 5;");
        x.marry(0, 0, 0, 1, 0);
        x.set(0, 0, 3, 1);
        x.set(0, 1, 3, 99);
        person(x, 1, 1, 1, 0, 0, NONE);
        person(x, 99, 1, 0, 0, 0, NONE);
        person(x, 98, 0, 0, 0, 0, NONE);
        for (int p : new int[] {0, -1, 100, SMALLEST, LARGEST}) {
            person(x, p, BAD, BAD, BAD, BAD, BAD);
        }
        for (int what : new int[] {-1, 5, SMALLEST, LARGEST}) {
            CHECK.due("person(1, " + what + ")", x.person(1, what), BAD);
            CHECK.due("person(50, " + what + "): BAD comes first", x.person(50, what), BAD);
        }
        CrossOrName y = Check.landOf("parish 5;");
        y.marry(0, 0, 0, 1, 0);
        CHECK.due("those whom nobody knows are no person", y.person(0, 0), BAD);
    }

    /** A cross in one year, a name in another one. */
    private static void crossAndName(int cross, int name, int crossFirst, int nameFirst) {
        CrossOrName x = Check.landOf("parish 5;");
        x.marry(0, cross, 0, 0, 1);
        x.marry(0, name, 0, 1, 0);
        x.set(0, 0, 3, 7);
        x.set(1, 0, 3, 7);
        person(x, 7, 2, 1, crossFirst, nameFirst, NONE);
    }

    private static void laterIsInALaterYear() {
        crossAndName(0, 1, 1, 0);
        crossAndName(1, 0, 0, 1);
        crossAndName(0, 89, 1, 0);
        crossAndName(89, 0, 0, 1);
        crossAndName(40, 40, 0, 0);
        crossAndName(0, 0, 0, 0);
        crossAndName(89, 89, 0, 0);
    }

    private static void personBothWays() {
        CrossOrName x = Check.landOf("parish 5;");
        int[] years = {30, 20, 10};
        int[] marks = {0, 1, 0};
        for (int m = 0; m < 3; m++) {
            x.marry(0, years[m], 0, 1, marks[m]);
            x.set(m, 1, 3, 7);
        }
        person(x, 7, 3, 1, 1, 1, NONE);
        x.set(1, 1, 0, 0);
        person(x, 7, 3, 0, 0, 0, NONE);
        x.set(0, 1, 0, 1);
        x.set(1, 1, 0, 1);
        x.set(2, 1, 0, 1);
        person(x, 7, 3, 3, 0, 0, 0);
    }

    private static void apartOfFewerThanTwoNames() {
        CrossOrName x = Check.landOf("parish 5;");
        CHECK.due("none", x.person(7, 4), NONE);
        x.marry(0, 0, 0, 1, 0);
        x.set(0, 0, 3, 7);
        x.set(0, 0, 2, 255);
        CHECK.due("one", x.person(7, 4), NONE);
        x.set(0, 1, 3, 7);
        CHECK.due("one and a cross", x.person(7, 4), NONE);
        x.set(0, 1, 0, 1);
        CHECK.due("two in one marriage", x.person(7, 4), 8);
        x.set(0, 1, 2, 255);
        CHECK.due("two that are the same", x.person(7, 4), 0);
        x.set(0, 1, 2, 254);
        CHECK.due("a bit apart", x.person(7, 4), 1);
        x.tear(0);
        CHECK.due("none again", x.person(7, 4), NONE);
    }

    private static void apartOfManyNames() {
        CrossOrName x = Check.landOf("parish 5;");
        int[] hands = {0, 15, 240};
        for (int m = 0; m < 3; m++) {
            x.marry(0, m, 0, 0, 1);
            x.set(m, 1, 3, 99);
            x.set(m, 1, 2, hands[m]);
        }
        CHECK.due("the second and the third are the farthest", x.person(99, 4), 8);
        x.set(1, 1, 0, 0);
        CHECK.due("the second is a cross", x.person(99, 4), 4);
        x.set(2, 1, 3, 98);
        CHECK.due("the third is another one's", x.person(99, 4), NONE);
    }

    private static void personInAFullBook() {
        CrossOrName x = Check.landOf("parish 5;");
        for (int m = 0; m < 40; m++) {
            x.marry(0, 40 + m, 0, 1, 0);
            x.set(m, 0, 3, 50);
            x.set(m, 1, 3, 50);
        }
        person(x, 50, 80, 40, 1, 1, 0);
        x.set(39, 0, 2, 255);
        CHECK.due("the last is apart", x.person(50, 4), 8);
        CHECK.due("once there is one", x.twice(0), 1);
    }

    // ---- promise 34

    private static void twiceAtItsBounds() {
        CrossOrName x = Check.landOf("parish 5;");
        CHECK.due("none", x.twice(0), 0);
        CHECK.due("no least", x.twice(1), NONE);
        CHECK.due("none with both", x.twice(2), 0);
        x.marry(0, 0, 0, 1, 1);
        x.marry(0, 0, 0, 1, 1);
        CHECK.due("marks that nobody knows are nobody's", x.twice(0), 0);
        CHECK.due("nor the least", x.twice(1), NONE);
        x.set(0, 0, 3, 99);
        CHECK.due("once", x.twice(0), 0);
        CHECK.due("no least of it", x.twice(1), NONE);
        x.set(0, 1, 3, 99);
        CHECK.due("twice in one marriage", x.twice(0), 1);
        CHECK.due("the least", x.twice(1), 99);
        x.set(1, 0, 3, 99);
        CHECK.due("thrice is one still", x.twice(0), 1);
        x.set(0, 1, 3, 1);
        x.set(1, 1, 3, 1);
        CHECK.due("two persons", x.twice(0), 2);
        CHECK.due("the least of them", x.twice(1), 1);
        x.tear(1);
        CHECK.due("once each", x.twice(0), 0);
    }

    private static void twiceOfAllPersons() {
        CrossOrName x = Check.landOf("parish 5;");
        for (int m = 0; m < 40; m++) {
            x.marry(0, 0, 0, 1, m % 2);
            x.set(m, 0, 3, 99 - m);
            x.set(m, 1, 3, 99 - m);
        }
        CHECK.due("40 persons", x.twice(0), 40);
        CHECK.due("the least", x.twice(1), 60);
        CHECK.due("20 of them put both", x.twice(2), 20);
    }

    private static void twiceOfBoth() {
        CrossOrName x = Check.landOf("parish 5;");
        x.marry(0, 0, 0, 1, 0);
        x.set(0, 0, 3, 4);
        x.set(0, 1, 3, 5);
        CHECK.due("once each", x.twice(2), 0);
        x.set(0, 1, 3, 4);
        CHECK.due("both in one marriage", x.twice(2), 1);
        x.set(0, 0, 0, 0);
        CHECK.due("crosses alone", x.twice(2), 0);
        x.set(0, 0, 0, 1);
        x.set(0, 1, 0, 1);
        CHECK.due("names alone", x.twice(2), 0);
        CHECK.due("twice all the same", x.twice(0), 1);
    }

    private static void twiceArguments() {
        CrossOrName x = Check.landOf("parish 5;");
        for (int what : new int[] {-1, 3, SMALLEST, LARGEST}) {
            CHECK.due("twice(" + what + ")", x.twice(what), BAD);
        }
    }

    // ---- promise 35

    private static void findAtTheBoundOfApart() {
        // names of hands 0 and 255: from no hand are both within 3, from those with four bits within 4
        CrossOrName x = Check.landOf("parish 5;parish 6;");
        x.marry(1, 0, 0, 1, 1);
        x.set(0, 1, 2, 255);
        int[] hands = {0, 0, 0, 0, 15};
        int[] how = {1, 1, 1, 1, 2};
        for (int n = 0; n <= 4; n++) {
            CHECK.due("hand, n " + n, x.find(1, n, 0), hands[n]);
            CHECK.due("how many, n " + n, x.find(1, n, 1), how[n]);
        }
        x.set(0, 1, 2, 7);
        int[] nearer = {0, 0, 1, 0, 0};
        int[] howNear = {1, 1, 2, 2, 2};
        for (int n = 0; n <= 4; n++) {
            CHECK.due("hand, n " + n + ", of 0 and 7", x.find(1, n, 0), nearer[n]);
            CHECK.due("how many, n " + n + ", of 0 and 7", x.find(1, n, 1), howNear[n]);
        }
    }

    private static void findTheLeastHand() {
        CrossOrName x = Check.landOf("parish 5;");
        x.marry(0, 0, 0, 1, 0);
        int[] least = {255, 127, 63, 31, 15};
        x.set(0, 0, 2, 255);
        for (int n = 0; n <= 4; n++) {
            CHECK.due("near to 255, n " + n, x.find(0, n, 0), least[n]);
            CHECK.due("how many", x.find(0, n, 1), 1);
        }
        x.marry(0, 0, 0, 1, 1);
        x.set(1, 0, 2, 128);
        x.set(1, 1, 2, 255);
        CHECK.due("two of 255, one of 128", x.find(0, 0, 0), 255);
        x.set(1, 1, 2, 128);
        CHECK.due("one of 255, two of 128", x.find(0, 0, 0), 128);
        x.set(1, 1, 2, 127);
        CHECK.due("one of each", x.find(0, 0, 0), 127);
    }

    private static void findOfNoNames() {
        CrossOrName x = Check.landOf("parish 5;parish 6;");
        CHECK.due("no marriages", x.find(0, 4, 0), NONE);
        CHECK.due("no marriages, how many", x.find(0, 4, 1), NONE);
        x.marry(0, 0, 0, 0, 0);
        CHECK.due("crosses", x.find(0, 4, 1), NONE);
        x.marry(1, 0, 0, 1, 1);
        CHECK.due("names elsewhere", x.find(0, 4, 1), NONE);
        CHECK.due("names there", x.find(1, 4, 1), 2);
        x.set(0, 1, 0, 1);
        CHECK.due("a name of hand 0", x.find(0, 0, 0), 0);
        CHECK.due("one", x.find(0, 0, 1), 1);
        CHECK.due("BAD comes first", x.find(0, 5, 0), BAD);
    }

    private static void findInAFullBook() {
        CrossOrName x = Check.landOf("parish 5;clerk 0 0 89 255 0;");
        for (int m = 0; m < 40; m++) {
            x.marry(0, 0, 0, 1, 1);
            x.set(m, 0, 2, 255);
            x.set(m, 1, 2, 255);
        }
        CHECK.due("80 names, though a clerk wrote them", x.find(0, 0, 1), 80);
        CHECK.due("their hand", x.find(0, 0, 0), 255);
        CHECK.due("the least that is near", x.find(0, 4, 0), 15);
    }

    private static void findArguments() {
        CrossOrName x = Check.landOf("parish 5;".repeat(12));
        x.marry(11, 0, 0, 1, 0);
        CHECK.due("the last parish", x.find(11, 0, 1), 1);
        for (int v : new int[] {-1, 12, SMALLEST, LARGEST}) {
            CHECK.due("parish " + v, x.find(v, 0, 0), BAD);
        }
        for (int v : new int[] {-1, 5, SMALLEST, LARGEST}) {
            CHECK.due("n " + v, x.find(11, v, 0), BAD);
            CHECK.due("n " + v + ", no names: BAD comes first", x.find(0, v, 0), BAD);
        }
        for (int v : new int[] {-1, 2, SMALLEST, LARGEST}) {
            CHECK.due("what " + v, x.find(11, 0, v), BAD);
            CHECK.due("what " + v + ", no names: BAD comes first", x.find(0, 0, v), BAD);
        }
    }
}
