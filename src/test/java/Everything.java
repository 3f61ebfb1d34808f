import java.util.ArrayList;
import java.util.List;

/**
 * All that can be asked of an object, in rows: two objects that hold the same answer the same. The last questions change
 * the object (that is how choices, sheets, images and the tape are looked at), so it is of no use behind them.
 */
final class Everything {
    /** An object is asked 512 times at most: a rich one takes some 70 calls, the loops' own questions some 50. */
    private static final int MOST_ROWS = 390;

    private final CrossOrName x;
    private final List<String> rows = new ArrayList<>();

    private Everything(CrossOrName x) {
        this.x = x;
    }

    /** An object with something of everything: 3 parishes, 2 clerks, 6 marriages, a torn read, 8 bytes on the tape. */
    static CrossOrName rich() {
        CrossOrName x = Check.landOf("parish 10 town mill 20;parish 20 school 30;parish 30;clerk 0 10 20 15 1;"
                + "clerk 1 0 89 240 0;learn 10;ages 20 30;never 4;picture 2;tried cross 1 3;tried name 4 5;");
        int[][] pairs = {{0, 10, 0, 1, 0}, {0, 30, 1, 1, 1}, {1, 25, 7, 0, 1}, {1, 40, 3, 1, 0}, {2, 50, 2, 1, 1},
            {0, 60, 0, 0, 1}};
        for (int[] p : pairs) {
            x.marry(p[0], p[1], p[2], p[3], p[4]);
        }
        int[][] sets = {{0, 0, 2, 14}, {0, 0, 1, 25}, {0, 1, 3, 2}, {1, 0, 2, 99}, {1, 0, 3, 1}, {1, 1, 3, 2}, {1, 1, 2, 7},
            {2, 1, 2, 240}, {2, 1, 3, 3}, {3, 0, 2, 96}, {3, 0, 3, 1}, {3, 1, 3, 2}, {4, 0, 4, 0}, {4, 1, 1, 60},
            {5, 0, 3, 99}, {5, 1, 1, 16}};
        for (int[] s : sets) {
            x.set(s[0], s[1], s[2], s[3]);
        }
        x.choose(0, 3, 5, 85, 3, 255);
        x.keep(0);
        x.choose(1, 6, 20, 80, 2, 143);
        x.sheet(0, 0, 12);
        x.sheet(1, 2, 5);
        x.sheet(2, 1, 0);
        int[] cells = {2, 70, 6, 1, 0, 1, 71, 5, 0, 1, 0, 9};
        for (int i = 0; i < cells.length; i++) {
            x.lay(0, i, cells[i]);
        }
        x.lay(1, 1, 33);
        x.read(2, 1, 0, 1);
        x.feed(0x6e6576657220393bL);
        return x;
    }

    static List<String> of(CrossOrName x) {
        Everything all = new Everything(x);
        all.land();
        all.books();
        all.choices();
        all.shares();
        all.persons();
        all.extentOfChoices();
        all.sheets();
        all.images();
        all.tape();
        if (all.rows.size() > MOST_ROWS) {
            throw new IllegalStateException(all.rows.size() + " rows, more than " + MOST_ROWS);
        }
        return all.rows;
    }

    /** The rows in which two differ; those of a call in "but" are not compared. */
    static String difference(List<String> a, List<String> b, String... but) {
        StringBuilder found = new StringBuilder();
        for (int i = 0; i < Math.max(a.size(), b.size()); i++) {
            String one = i < a.size() ? a.get(i) : "nothing";
            String other = i < b.size() ? b.get(i) : "nothing";
            boolean compared = true;
            for (String call : but) {
                compared = compared && !one.startsWith(call);
            }
            if (compared && !one.equals(other)) {
                found.append(one).append(" against ").append(other).append("; ");
            }
        }
        return found.toString();
    }

    private void row(String call, long answer) {
        rows.add(call + " = " + answer);
    }

    private void land() {
        for (int what = 0; what <= 10; what++) {
            row("told " + what, x.told(what));
        }
        row("fault", x.fault());
        row("torn", x.torn());
        for (int what = 0; what <= 4; what++) {
            row("count " + what, x.count(what));
        }
        for (int p = 0; p < x.told(0); p++) {
            for (int what = 0; what <= 4; what++) {
                row("parish " + p + " " + what, x.parish(p, what));
            }
        }
        for (int k = 0; k < x.told(1); k++) {
            for (int what = 0; what <= 5; what++) {
                row("clerk " + k + " " + what, x.clerk(k, what));
            }
        }
    }

    private void books() {
        for (int m = 0; m < x.count(0); m++) {
            for (int what = 0; what <= 2; what++) {
                row("of " + m + " " + what, x.of(m, what));
            }
            for (int side = 0; side <= 1; side++) {
                for (int what = 0; what <= 4; what++) {
                    row("has " + m + " " + side + " " + what, x.has(m, side, what));
                }
                row("kind " + m + " " + side, x.kind(m, side));
                row("writer " + m + " " + side, x.writer(m, side));
            }
        }
    }

    private void choices() {
        for (int c = 0; c <= 1; c++) {
            for (int what : new int[] {0, 1, 2, 11, 12, 13, 14, 15}) {
                row("many " + c + " " + what, x.many(c, what));
            }
            row("share " + c, x.share(c, 0));
            row("best " + c, x.best(c, 1, 1, 0));
            row("pairs " + c, x.pairs(c, 3));
            row("spared " + c, x.spared(c, 0));
            row("learnt " + c, x.learnt(c, 0, 40, 1));
            row("bounds " + c, x.bounds(c, 0, 40, 2));
            row("tens " + c, x.tens(c, 0));
            row("reading " + c, x.reading(c, 0));
            row("unwed " + c, x.unwed(c, 3));
        }
    }

    private void shares() {
        row("span", x.span(1, 0));
        row("span, greatest", x.span(1, 2));
        row("next", x.next(0));
        row("enough", x.enough(1, 2, 1));
        row("more", x.parts(0, 0));
        row("better", x.parts(1, 2));
        row("worth", x.worth(0, 40, 0));
    }

    private void persons() {
        for (int p : new int[] {1, 2, 3, 99}) {
            for (int what = 0; what <= 4; what++) {
                row("person " + p + " " + what, x.person(p, what));
            }
        }
        for (int what = 0; what <= 2; what++) {
            row("twice " + what, x.twice(what));
        }
        for (int p = 0; p < x.told(0); p++) {
            row("find " + p, x.find(p, 1, 0));
        }
    }

    /** Which parishes, years, sides, trades the choices have is told by marriages that come, and go again. */
    private void extentOfChoices() {
        int[][] pairs = {{0, 5, 0}, {0, 4, 1}, {1, 85, 2}, {1, 86, 3}, {2, 20, 1}, {2, 19, 1}, {1, 80, 7}, {1, 81, 7},
            {1, 50, 4}, {2, 50, 3}};
        for (int[] p : pairs) {
            int m = x.marry(p[0], p[1], p[2], 1, 0);
            row("marry", m);
            for (int c = 0; c <= 1; c++) {
                row("many " + c + " with it", x.many(c, 0));
                row("crosses of them", x.many(c, 2));
            }
            row("tear", x.tear(m));
        }
    }

    private void sheets() {
        int[] lanes = {0, 2, 1, 0};
        for (int k = 0; k <= 3; k++) {
            for (int i : new int[] {0, 4, 5, 11, 12}) {
                row("read " + k + " from " + i, x.read(k, lanes[k], i, 2));
                row("torn", x.torn());
                int last = x.count(0) - 1;
                row("year of the last", x.of(last, 1));
            }
        }
        row("lay on nothing", x.lay(3, 0, 0));
    }

    private void images() {
        for (int k = 1; k >= 0; k--) {
            row("back " + k, x.back(k));
            row("marriages", x.count(0));
            row("choice 0", x.many(0, 0));
            row("choice 1", x.many(1, 0));
            row("hand", x.has(1, 0, 2));
            row("person", x.has(3, 1, 3));
            row("age", x.has(4, 1, 1));
            row("born", x.has(4, 0, 4));
        }
    }

    private void tape() {
        row("bytes", x.count(1));
        row("land", x.land());
        row("its fault", x.fault());
        row("its never", x.told(5));
        row("its parishes", x.told(0));
    }
}
