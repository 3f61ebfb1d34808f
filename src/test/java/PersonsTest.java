/** Promises 33 to 35: who stands there twice, a hand that is near to most. */
public final class PersonsTest {
    private static final Check CHECK = new Check("PersonsTest");

    public static void main(String[] args) {
        person();
        twice();
        find();
        CHECK.finish();
    }

    private static void expectPerson(CrossOrName x, String when, int[] want) {
        for (int what = 0; what < want.length; what++) {
            CHECK.due(when + ", person(7, " + what + ")", x.person(7, what), want[what]);
        }
    }

    private static void person() {
        CrossOrName x = Check.landOf("parish 5;clerk 0 0 89 255 0;");
        expectPerson(x, "nowhere", new int[] {0, 0, 0, 0, -4});
        x.marry(0, 10, 0, 0, 1);
        x.set(0, 0, 3, 7);
        expectPerson(x, "a cross", new int[] {1, 0, 0, 0, -4});
        x.set(0, 1, 3, 7);
        expectPerson(x, "a name in the same year", new int[] {2, 1, 0, 0, -4});
        x.marry(0, 20, 0, 1, 0);
        x.set(1, 0, 3, 7);
        x.set(1, 0, 2, 255);
        expectPerson(x, "a name later, though a clerk wrote it", new int[] {3, 2, 1, 0, 8});
        x.set(1, 0, 2, 0);
        CHECK.due("two names that are not apart", x.person(7, 4), 0);
        x.set(1, 0, 2, 255);
        x.set(0, 0, 3, 0);
        expectPerson(x, "names alone", new int[] {2, 2, 0, 0, 8});
        x.set(1, 1, 3, 7);
        expectPerson(x, "a cross later", new int[] {3, 2, 0, 1, 8});
        x.marry(0, 15, 0, 1, 0);
        x.set(2, 0, 3, 7);
        x.set(2, 0, 2, 15);
        expectPerson(x, "three names", new int[] {4, 3, 0, 1, 8});
        CHECK.due("person(0, 0)", x.person(0, 0), -1);
        CHECK.due("person(100, 0)", x.person(100, 0), -1);
        CHECK.due("person(7, 5)", x.person(7, 5), -1);
        CHECK.due("person(7, -1)", x.person(7, -1), -1);
    }

    private static void twice() {
        CrossOrName x = Check.landOf("parish 5;");
        x.marry(0, 10, 0, 0, 1);
        x.marry(0, 20, 0, 0, 1);
        x.marry(0, 20, 0, 0, 1);
        CHECK.due("nobody is known", x.twice(0), 0);
        CHECK.due("nor the least", x.twice(1), -4);
        x.set(0, 0, 3, 99);
        CHECK.due("once", x.twice(0), 0);
        x.set(1, 0, 3, 99);
        CHECK.due("twice", x.twice(0), 1);
        CHECK.due("the least", x.twice(1), 99);
        CHECK.due("crosses alone", x.twice(2), 0);
        x.set(0, 0, 0, 1);
        x.set(1, 0, 0, 1);
        CHECK.due("names alone", x.twice(2), 0);
        CHECK.due("asked again", x.twice(0), 1);
        x.set(0, 0, 0, 0);
        x.set(1, 0, 0, 0);
        x.set(1, 1, 3, 1);
        x.set(2, 0, 3, 1);
        CHECK.due("two persons", x.twice(0), 2);
        CHECK.due("the least of two", x.twice(1), 1);
        CHECK.due("one put both", x.twice(2), 1);
        CHECK.due("twice(3)", x.twice(3), -1);
        CHECK.due("twice(-1)", x.twice(-1), -1);
    }

    private static void find() {
        CrossOrName x = Check.landOf("parish 5;parish 6;");
        CHECK.due("no names", x.find(0, 0, 0), -4);
        x.marry(0, 10, 0, 1, 1);
        x.marry(0, 10, 0, 1, 0);
        x.marry(1, 10, 0, 1, 1);
        x.set(0, 0, 2, 240);
        x.set(0, 1, 2, 248);
        x.set(1, 0, 2, 248);
        int[][] want = {{0, 0, 0, 248}, {0, 0, 1, 2}, {0, 1, 0, 240}, {0, 1, 1, 3}, {0, 4, 0, 16}, {0, 4, 1, 3},
            {1, 0, 0, 0}, {1, 0, 1, 2}, {2, 0, 0, -1}, {-1, 0, 0, -1}, {0, 5, 0, -1}, {0, -1, 0, -1}, {0, 0, 2, -1},
            {0, 0, -1, -1}};
        for (int[] w : want) {
            CHECK.due("find(" + w[0] + ", " + w[1] + ", " + w[2] + ")", x.find(w[0], w[1], w[2]), w[3]);
        }
        x.set(2, 0, 2, 255);
        x.set(2, 1, 2, 255);
        CHECK.due("the last hand there is", x.find(1, 0, 0), 255);
        x.set(2, 0, 0, 0);
        x.set(2, 1, 0, 0);
        CHECK.due("crosses alone", x.find(1, 4, 1), -4);
    }
}
