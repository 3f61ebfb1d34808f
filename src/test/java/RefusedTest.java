import java.util.List;

/**
 * "What is refused changes nothing": each argument of each call at the first number that is not allowed on either side,
 * and at the smallest and the largest int; behind each such call all else answers as if it had not been made.
 */
public final class RefusedTest {
    private static final Check CHECK = new Check("RefusedTest");
    private static final int BAD = CrossOrName.BAD;
    private static final List<String> UNTOUCHED = Everything.of(Everything.rich());

    interface Call {
        long ask(CrossOrName x);
    }

    interface CallOf {
        long ask(CrossOrName x, int v);
    }

    public static void main(String[] args) {
        land();
        books();
        valuesOfSet();
        choices();
        years();
        shares();
        persons();
        images();
        notBad();
        CHECK.finish();
    }

    private static void refused(String call, Call asked, long want) {
        CrossOrName x = Everything.rich();
        CHECK.due(call, asked.ask(x), want);
        String difference = Everything.difference(UNTOUCHED, Everything.of(x));
        CHECK.due(call + " changed " + difference, difference.length(), 0);
    }

    /** One argument, the others being fine: what is allowed is from low to high. */
    private static void bounds(String call, CallOf asked, int low, int high, long bad) {
        int[] outside = {low - 1, high + 1, Integer.MIN_VALUE, Integer.MAX_VALUE};
        for (int v : outside) {
            refused(call + " of " + v, x -> asked.ask(x, v), bad);
        }
        int[] inside = {low, high};
        for (int v : inside) {
            CHECK.due(call + " of " + v + " is not BAD", asked.ask(Everything.rich(), v) == bad ? 1 : 0, 0);
        }
    }

    private static void bounds(String call, CallOf asked, int low, int high) {
        bounds(call, asked, low, high, BAD);
    }

    private static void land() {
        bounds("end(n)", (x, v) -> x.end(v), 0, 8);
        bounds("told(what)", (x, v) -> x.told(v), 0, 10);
        bounds("parish(p, 0)", (x, v) -> x.parish(v, 0), 0, 2);
        bounds("parish(0, what)", (x, v) -> x.parish(0, v), 0, 4);
        bounds("clerk(k, 0)", (x, v) -> x.clerk(v, 0), 0, 1);
        bounds("clerk(0, what)", (x, v) -> x.clerk(0, v), 0, 5);
        bounds("clerk(k, 5)", (x, v) -> x.clerk(v, 5), 0, 1);
    }

    private static void books() {
        bounds("marry(parish)", (x, v) -> x.marry(v, 0, 0, 0, 0), 0, 2);
        bounds("marry(year)", (x, v) -> x.marry(0, v, 0, 0, 0), 0, 89);
        bounds("marry(trade)", (x, v) -> x.marry(0, 0, v, 0, 0), 0, 7);
        bounds("marry(groom)", (x, v) -> x.marry(0, 0, 0, v, 0), 0, 1);
        bounds("marry(bride)", (x, v) -> x.marry(0, 0, 0, 0, v), 0, 1);
        bounds("set(m)", (x, v) -> x.set(v, 0, 0, 0), 0, 5);
        bounds("set(side)", (x, v) -> x.set(0, v, 0, 0), 0, 1);
        bounds("set(what)", (x, v) -> x.set(0, 0, v, 0), 0, 4);
        bounds("of(m)", (x, v) -> x.of(v, 0), 0, 5);
        bounds("of(what)", (x, v) -> x.of(0, v), 0, 2);
        bounds("has(m)", (x, v) -> x.has(v, 0, 0), 0, 5);
        bounds("has(side)", (x, v) -> x.has(0, v, 0), 0, 1);
        bounds("has(what)", (x, v) -> x.has(0, 0, v), 0, 4);
        bounds("kind(m)", (x, v) -> x.kind(v, 0), 0, 5);
        bounds("kind(side)", (x, v) -> x.kind(0, v), 0, 1);
        bounds("writer(m)", (x, v) -> x.writer(v, 0), 0, 5);
        bounds("writer(side)", (x, v) -> x.writer(0, v), 0, 1);
        bounds("apart(a)", (x, v) -> x.apart(v, 0), 0, 255);
        bounds("apart(b)", (x, v) -> x.apart(0, v), 0, 255);
        bounds("tear(m)", (x, v) -> x.tear(v), 0, 5);
    }

    private static void valuesOfSet() {
        bounds("MARK", (x, v) -> x.set(1, 0, 0, v), 0, 1);
        bounds("AGE from 16 to 60", (x, v) -> x.set(1, 0, 1, v), 16, 60);
        bounds("AGE 0", (x, v) -> x.set(1, 0, 1, v), 0, 0);
        bounds("HAND", (x, v) -> x.set(1, 0, 2, v), 0, 255);
        bounds("PERSON", (x, v) -> x.set(1, 0, 3, v), 0, 99);
        bounds("born there", (x, v) -> x.set(1, 0, 4, v), 0, 1);
    }

    private static void choices() {
        bounds("choose(c)", (x, v) -> x.choose(v, 7, 0, 89, 3, 255), 0, 1);
        bounds("choose(parishes)", (x, v) -> x.choose(0, v, 0, 89, 3, 255), 0, 7);
        bounds("choose(from)", (x, v) -> x.choose(0, 7, v, 89, 3, 255), 0, 89);
        bounds("choose(to)", (x, v) -> x.choose(0, 7, 0, v, 3, 255), 0, 89);
        bounds("choose(from up to 40)", (x, v) -> x.choose(0, 7, v, 40, 3, 255), 0, 40);
        bounds("choose(to from 40 on)", (x, v) -> x.choose(0, 7, 40, v, 3, 255), 40, 89);
        bounds("choose(sides)", (x, v) -> x.choose(0, 7, 0, 89, v, 255), 0, 3);
        bounds("choose(trades)", (x, v) -> x.choose(0, 7, 0, 89, 3, v), 0, 255);
        refused("choose, years 90 to 90", x -> x.choose(0, 7, 90, 90, 3, 255), BAD);
        refused("choose, years -1 to -1", x -> x.choose(0, 7, -1, -1, 3, 255), BAD);
        bounds("many(c)", (x, v) -> x.many(v, 0), 0, 1);
        bounds("many(0 to 2)", (x, v) -> x.many(0, v), 0, 2);
        bounds("many(10 and k)", (x, v) -> x.many(0, v), 11, 15);
        bounds("share(c)", (x, v) -> x.share(v, 0), 0, 1);
        bounds("share(what)", (x, v) -> x.share(0, v), 0, 1);
        bounds("best(c)", (x, v) -> x.best(v, 0, 1, 0), 0, 1);
        bounds("best(groups)", (x, v) -> x.best(0, v, 1, 0), 0, 3);
        bounds("best(n)", (x, v) -> x.best(0, 0, v, 0), 1, 99);
        bounds("best(what)", (x, v) -> x.best(0, 0, 1, v), 0, 2);
        bounds("pairs(c)", (x, v) -> x.pairs(v, 0), 0, 1);
        bounds("pairs(what)", (x, v) -> x.pairs(0, v), 0, 3);
        bounds("spared(c)", (x, v) -> x.spared(v, 0), 0, 1);
        bounds("spared(what)", (x, v) -> x.spared(0, v), 0, 1);
    }

    private static void years() {
        bounds("learnt(c)", (x, v) -> x.learnt(v, 0, 0, 0), 0, 1);
        bounds("learnt(a)", (x, v) -> x.learnt(0, v, 89, 0), -60, 89);
        bounds("learnt(b)", (x, v) -> x.learnt(0, -60, v, 0), -60, 89);
        bounds("learnt(a up to -7)", (x, v) -> x.learnt(0, v, -7, 0), -60, -7);
        bounds("learnt(b from 7 on)", (x, v) -> x.learnt(0, 7, v, 0), 7, 89);
        bounds("learnt(what)", (x, v) -> x.learnt(0, 0, 0, v), 0, 3);
        bounds("bounds(c)", (x, v) -> x.bounds(v, 0, 0, 0), 0, 1);
        bounds("bounds(a)", (x, v) -> x.bounds(0, v, 89, 0), -60, 89);
        bounds("bounds(b)", (x, v) -> x.bounds(0, -60, v, 0), -60, 89);
        bounds("bounds(a up to -7)", (x, v) -> x.bounds(0, v, -7, 0), -60, -7);
        bounds("bounds(b from 7 on)", (x, v) -> x.bounds(0, 7, v, 0), 7, 89);
        bounds("bounds(what)", (x, v) -> x.bounds(0, 0, 0, v), 0, 3);
        bounds("tens(c)", (x, v) -> x.tens(v, 0), 0, 1, -1000);
        bounds("tens(what)", (x, v) -> x.tens(0, v), 0, 1, -1000);
    }

    private static void shares() {
        bounds("span(parishes)", (x, v) -> x.span(v, 0), 0, 3);
        bounds("span(what)", (x, v) -> x.span(0, v), 0, 3);
        refused("span of one without MARKS of CHOICE 0", x -> x.span(7, 0), BAD);
        refused("span of one that there is not", x -> x.span(8, 0), BAD);
        bounds("next(parishes)", (x, v) -> x.next(v), 0, 3);
        refused("next with one without MARKS of CHOICE 0", x -> x.next(7), BAD);
        refused("next with one that there is not", x -> x.next(8), BAD);
        bounds("enough(a by 999)", (x, v) -> x.enough(v, 999, 0), 0, 999);
        bounds("enough(0 by b)", (x, v) -> x.enough(0, v, 0), 1, 999);
        bounds("enough(5 by b)", (x, v) -> x.enough(5, v, 0), 5, 999);
        bounds("enough(what)", (x, v) -> x.enough(1, 1, v), 0, 1);
        bounds("reading(c)", (x, v) -> x.reading(v, 0), 0, 1);
        bounds("reading(what)", (x, v) -> x.reading(0, v), 0, 1);
        bounds("unwed(c)", (x, v) -> x.unwed(v, 0), 0, 1);
        bounds("unwed(what)", (x, v) -> x.unwed(0, v), 0, 3);
        bounds("parts(groups)", (x, v) -> x.parts(v, 1), 0, 3);
        bounds("parts(what)", (x, v) -> x.parts(0, v), 0, 5);
        bounds("worth(kind)", (x, v) -> x.worth(v, 40, 0), 0, 1, -1000000);
        bounds("worth(year)", (x, v) -> x.worth(0, v, 0), 0, 89, -1000000);
        bounds("worth(what)", (x, v) -> x.worth(0, 40, v), 0, 1, -1000000);
    }

    private static void persons() {
        bounds("person(p)", (x, v) -> x.person(v, 0), 1, 99);
        bounds("person(what)", (x, v) -> x.person(1, v), 0, 4);
        bounds("twice(what)", (x, v) -> x.twice(v), 0, 2);
        bounds("find(parish)", (x, v) -> x.find(v, 0, 0), 0, 2);
        bounds("find(n)", (x, v) -> x.find(0, v, 0), 0, 4);
        bounds("find(what)", (x, v) -> x.find(0, 0, v), 0, 1);
    }

    private static void images() {
        bounds("keep(k)", (x, v) -> x.keep(v), 0, 1);
        bounds("back(k)", (x, v) -> x.back(v), 0, 1);
        bounds("sheet(k)", (x, v) -> x.sheet(v, 0, 1), 0, 3);
        bounds("sheet(lane)", (x, v) -> x.sheet(0, v, 1), 0, 2);
        refused("sheet of 61", x -> x.sheet(0, 0, 61), BAD);
        refused("sheet of the largest int", x -> x.sheet(0, 0, Integer.MAX_VALUE), BAD);
        refused("sheet of -1", x -> x.sheet(0, 0, -1), -14);
        refused("sheet of the smallest int", x -> x.sheet(0, 0, Integer.MIN_VALUE), -14);
        bounds("lay(k)", (x, v) -> x.lay(v, 0, 0), 0, 3);
        bounds("lay(i)", (x, v) -> x.lay(0, v, 0), 0, 11, -12);
        refused("lay on no cells", x -> x.lay(2, 0, 5), -12);
        refused("lay on nothing", x -> x.lay(3, 0, 5), -11);
        bounds("read(k)", (x, v) -> x.read(v, 0, 0, 1), 0, 3);
        bounds("read(lane)", (x, v) -> x.read(0, v, 0, 1), 0, 2);
        bounds("read(n)", (x, v) -> x.read(0, 0, 0, v), 0, 12);
        bounds("count(what)", (x, v) -> x.count(v), 0, 4);
    }

    /** Refused for another reason than BAD. */
    private static void notBad() {
        refused("HAND of a cross", x -> x.set(0, 1, 2, 5), CrossOrName.STATE);
        refused("HAND 0 of a cross", x -> x.set(0, 1, 2, 0), CrossOrName.STATE);
        refused("back without an image", x -> x.back(1), CrossOrName.STATE);
        refused("read of what marry refuses", x -> x.read(0, 0, 1, 1), -20);
        refused("read of what marry refuses, the second", x -> {
            x.lay(0, 5, 3);
            long answer = x.read(0, 0, 0, 2);
            x.lay(0, 5, 1);
            return answer;
        }, -21);
    }
}
