import java.math.BigInteger;
import java.util.ArrayList;
import java.util.Arrays;
import java.util.List;
import java.util.function.ToIntFunction;

/**
 * The document once more, word by word and without any thought of speed or room: each answer is reckoned anew from its
 * definition, by trying all there is to try. ModelTest asks it and the class the same.
 */
public final class PlainModel {
    private static final int BAD = -1, STATE = -2, FULL = -3, NONE = -4;

    /** A refusal on the way: what the call answers. */
    private static final class Refused extends RuntimeException {
        private static final long serialVersionUID = 1;

        final long answer;

        Refused(long answer) {
            super(null, null, false, false);
            this.answer = answer;
        }
    }

    private record Parish(int all, int town, int mill, int school) { }

    private record Clerk(int parish, int from, int to, int hand, int apart) { }

    private static final class Side {
        int mark, age, hand, person, born = 1;

        Side copy() {
            Side s = new Side();
            s.mark = mark;
            s.age = age;
            s.hand = hand;
            s.person = person;
            s.born = born;
            return s;
        }
    }

    private static final class Marriage {
        int parish, year, trade;
        Side[] sides = {new Side(), new Side()};

        Marriage copy() {
            Marriage m = new Marriage();
            m.parish = parish;
            m.year = year;
            m.trade = trade;
            m.sides = new Side[] {sides[0].copy(), sides[1].copy()};
            return m;
        }
    }

    private record Choice(int parishes, int from, int to, int sides, int trades) { }

    private record Mark(Marriage of, int side) {
        Side it() {
            return of.sides[side];
        }
    }

    private record Fraction(BigInteger top, BigInteger bottom) {
        static Fraction of(long top, long bottom) {
            return of(BigInteger.valueOf(top), BigInteger.valueOf(bottom));
        }

        static Fraction of(BigInteger top, BigInteger bottom) {
            BigInteger g = top.gcd(bottom);
            return new Fraction(top.divide(g), bottom.divide(g));
        }

        Fraction plus(Fraction o) {
            return of(top.multiply(o.bottom).add(o.top.multiply(bottom)), bottom.multiply(o.bottom));
        }

        Fraction minus(Fraction o) {
            return plus(o.times(of(-1, 1)));
        }

        Fraction times(Fraction o) {
            return of(top.multiply(o.top), bottom.multiply(o.bottom));
        }

        int compareTo(Fraction o) {
            return top.multiply(o.bottom).compareTo(o.top.multiply(bottom));
        }

        long tell(int what) {
            return (what % 2 == 0 ? top : bottom).longValueExact();
        }
    }

    private static final class Image {
        List<Marriage> marriages = new ArrayList<>();
        Choice[] choices;
    }

    private static final class Land {
        List<Parish> parishes = new ArrayList<>();
        List<Clerk> clerks = new ArrayList<>();
        Integer learn, never, picture;
        int[] ages;
        int[][] tried = new int[2][];

        int learn() {
            return learn == null ? 11 : learn;
        }

        int never() {
            return never == null ? 0 : never;
        }

        int picture() {
            return picture == null ? 1 : picture;
        }

        int[] ages() {
            return ages == null ? new int[] {20, 35} : ages;
        }

        int[] tried(int mark) {
            return tried[mark] == null ? new int[] {mark, 1} : tried[mark];
        }
    }

    private String tape = "";
    private int fault = 0;
    private Land land = new Land();
    private List<Marriage> marriages = new ArrayList<>();
    private Choice[] choices = {allOf(0), allOf(0)};
    private final Image[] images = new Image[2];
    private final Object[] sheets = new Object[4];
    private int torn = 0;

    private static Choice allOf(int parishes) {
        return new Choice((1 << parishes) - 1, 0, 89, 3, 255);
    }

    private static void bad(boolean isBad) {
        refuse(isBad, BAD);
    }

    private static void refuse(boolean really, long answer) {
        if (really) {
            throw new Refused(answer);
        }
    }

    private static boolean out(long v, long low, long high) {
        return v < low || v > high;
    }

    /** Any call by its name. */
    long ask(String call, long[] a) {
        try {
            return answer(call, a);
        } catch (Refused r) {
            return r.answer;
        }
    }

    private long answer(String call, long[] a) {
        int[] i = Arrays.stream(a).mapToInt(v -> (int) v).toArray();
        return switch (call) {
            case "feed" -> feed(a[0]);
            case "end" -> end(i[0]);
            case "land" -> land();
            case "fault" -> fault;
            case "told" -> told(i[0]);
            case "parish" -> parish(i[0], i[1]);
            case "clerk" -> clerk(i[0], i[1]);
            case "marry" -> marry(i[0], i[1], i[2], i[3], i[4]);
            case "set" -> set(i[0], i[1], i[2], i[3]);
            case "of" -> of(i[0], i[1]);
            case "has" -> has(i[0], i[1], i[2]);
            case "kind" -> kind(mark(i[0], i[1]));
            case "writer" -> writer(mark(i[0], i[1]));
            case "apart" -> apart(i[0], i[1]);
            case "tear" -> tear(i[0]);
            case "choose" -> choose(i[0], i[1], i[2], i[3], i[4], i[5]);
            case "many" -> many(i[0], i[1]);
            case "share" -> share(i[0], i[1]);
            case "best" -> best(i[0], i[1], i[2], i[3]);
            case "pairs" -> pairs(i[0], i[1]);
            case "spared" -> spared(i[0], i[1]);
            case "learnt" -> learnt(i[0], i[1], i[2], i[3]);
            case "bounds" -> bounds(i[0], i[1], i[2], i[3]);
            case "tens" -> tens(i[0], i[1]);
            case "span" -> span(i[0], i[1]);
            case "next" -> next(i[0]);
            case "enough" -> enough(i[0], i[1], i[2]);
            case "reading" -> reading(i[0], i[1]);
            case "unwed" -> unwed(i[0], i[1]);
            case "parts" -> parts(i[0], i[1]);
            case "worth" -> worth(i[0], i[1], i[2]);
            case "person" -> person(i[0], i[1]);
            case "twice" -> twice(i[0]);
            case "find" -> find(i[0], i[1], i[2]);
            case "keep" -> keep(i[0]);
            case "back" -> back(i[0]);
            case "sheet" -> sheet(i[0], i[1], i[2]);
            case "lay" -> lay(i[0], i[1], i[2]);
            case "read" -> read(i[0], i[1], i[2], i[3]);
            case "torn" -> torn;
            case "count" -> count(i[0]);
            default -> throw new IllegalStateException(call);
        };
    }

    // ---- the land

    private long feed(long v) {
        refuse(tape.length() + 8 > 320, FULL);
        StringBuilder all = new StringBuilder(tape);
        for (byte b : java.nio.ByteBuffer.allocate(8).putLong(v).array()) {
            all.append((char) Byte.toUnsignedInt(b));
        }
        tape = all.toString();
        return tape.length();
    }

    private long end(int n) {
        bad(out(n, 0, tape.length()));
        int had = tape.length();
        tape = tape.substring(0, n);
        return had;
    }

    private long land() {
        PlainReader reader = new PlainReader(tape);
        tape = "";
        fault = 0;
        Land fresh = new Land();
        int lines = 0;
        try {
            while (!reader.atEnd()) {
                line(reader, fresh);
                lines++;
            }
        } catch (PlainReader.Fault f) {
            fault = f.fault;
            return -10 - f.place;
        }
        land = fresh;
        marriages = new ArrayList<>();
        choices = new Choice[] {allOf(fresh.parishes.size()), allOf(fresh.parishes.size())};
        return lines;
    }

    private static void line(PlainReader r, Land to) {
        String name = r.name("parish", "clerk", "tried", "learn", "ages", "never", "picture");
        switch (name) {
            case "parish" -> {
                r.fault(to.parishes.size() == 12, 5);
                int all = r.number(1, 999);
                int town = r.maybe("town") ? 1 : 0;
                int mill = r.maybe("mill") ? r.number(0, 89) : NONE;
                int school = r.maybe("school") ? r.number(0, 89) : NONE;
                to.parishes.add(new Parish(all, town, mill, school));
            }
            case "clerk" -> {
                r.fault(to.clerks.size() == 8, 5);
                int parish = r.number(0, to.parishes.size() - 1);
                int from = r.number(0, 89);
                to.clerks.add(new Clerk(parish, from, r.number(from, 89), r.number(0, 255), r.number(0, 4)));
            }
            case "tried" -> {
                int mark = r.name("cross", "name").equals("name") ? 1 : 0;
                r.fault(to.tried[mark] != null, 4);
                int could = r.number(0, 999);
                to.tried[mark] = new int[] {could, r.number(Math.max(could, 1), 999)};
            }
            case "learn" -> {
                r.fault(to.learn != null, 4);
                to.learn = r.number(5, 20);
            }
            case "ages" -> {
                r.fault(to.ages != null, 4);
                int least = r.number(16, 60);
                to.ages = new int[] {least, r.number(least, 60)};
            }
            case "never" -> {
                r.fault(to.never != null, 4);
                to.never = r.number(0, 999);
            }
            default -> {
                r.fault(to.picture != null, 4);
                to.picture = r.number(0, 8);
            }
        }
        r.stop();
    }

    private long told(int what) {
        bad(out(what, 0, 10));
        int[] all = {land.parishes.size(), land.clerks.size(), land.learn(), land.ages()[0], land.ages()[1],
            land.never(), land.picture(), land.tried(0)[0], land.tried(0)[1], land.tried(1)[0], land.tried(1)[1]};
        return all[what];
    }

    private long parish(int p, int what) {
        bad(out(p, 0, land.parishes.size() - 1) || out(what, 0, 4));
        Parish it = land.parishes.get(p);
        long inBook = marriages.stream().filter(m -> m.parish == p).count();
        return new long[] {it.all, it.town, it.mill, it.school, inBook}[what];
    }

    private long clerk(int k, int what) {
        bad(out(k, 0, land.clerks.size() - 1) || out(what, 0, 5));
        Clerk it = land.clerks.get(k);
        long written = allMarks().stream().filter(m -> writer(m) == k).count();
        return new long[] {it.parish, it.from, it.to, it.hand, it.apart, written}[what];
    }

    // ---- the books

    private void badMarriage(int parish, int year, int trade, int groom, int bride, long answer) {
        refuse(out(parish, 0, land.parishes.size() - 1) || out(year, 0, 89) || out(trade, 0, 7) || out(groom, 0, 1)
                || out(bride, 0, 1), answer);
    }

    private static Marriage marriage(int parish, int year, int trade, int groom, int bride) {
        Marriage m = new Marriage();
        m.parish = parish;
        m.year = year;
        m.trade = trade;
        m.sides[0].mark = groom;
        m.sides[1].mark = bride;
        return m;
    }

    private long marry(int parish, int year, int trade, int groom, int bride) {
        badMarriage(parish, year, trade, groom, bride, BAD);
        refuse(marriages.size() == 40, FULL);
        marriages.add(marriage(parish, year, trade, groom, bride));
        return marriages.size() - 1;
    }

    private Mark mark(int m, int side) {
        bad(out(m, 0, marriages.size() - 1) || out(side, 0, 1));
        return new Mark(marriages.get(m), side);
    }

    private long set(int m, int side, int what, int v) {
        Side it = mark(m, side).it();
        long was = has(m, side, what);
        switch (what) {
            case 0 -> {
                bad(out(v, 0, 1));
                it.mark = v;
                it.hand = v == 0 ? 0 : it.hand;
            }
            case 1 -> {
                bad(v != 0 && out(v, 16, 60));
                it.age = v;
            }
            case 2 -> {
                bad(out(v, 0, 255));
                refuse(it.mark == 0, STATE);
                it.hand = v;
            }
            case 3 -> {
                bad(out(v, 0, 99));
                it.person = v;
            }
            default -> {
                bad(out(v, 0, 1));
                it.born = v;
            }
        }
        return was;
    }

    private long of(int m, int what) {
        bad(out(m, 0, marriages.size() - 1) || out(what, 0, 2));
        Marriage it = marriages.get(m);
        return new int[] {it.parish, it.year, it.trade}[what];
    }

    private long has(int m, int side, int what) {
        Side it = mark(m, side).it();
        bad(out(what, 0, 4));
        return new int[] {it.mark, it.age, it.hand, it.person, it.born}[what];
    }

    private List<Mark> allMarks() {
        List<Mark> all = new ArrayList<>();
        for (Marriage m : marriages) {
            all.add(new Mark(m, 0));
            all.add(new Mark(m, 1));
        }
        return all;
    }

    private static boolean same(Mark a, Mark b) {
        return a.of == b.of && a.side == b.side;
    }

    private static int bits(int a, int b) {
        int differing = 0;
        for (int i = 0; i < 8; i++) {
            differing += (a >> i & 1) == (b >> i & 1) ? 0 : 1;
        }
        return differing;
    }

    private int writer(Mark m) {
        for (int k = 0; k < land.clerks.size(); k++) {
            Clerk c = land.clerks.get(k);
            if (m.it().mark == 1 && c.parish == m.of.parish && !out(m.of.year, c.from, c.to)
                    && bits(c.hand, m.it().hand) <= c.apart) {
                return k;
            }
        }
        return NONE;
    }

    private int kind(Mark m) {
        if (m.it().mark == 0) {
            boolean spared = allMarks().stream().anyMatch(o -> isSamePerson(m, o) && o.of.year < m.of.year
                    && o.it().mark == 1 && kind(o) == 3);
            return spared ? 2 : 1;
        }
        if (writer(m) != NONE) {
            return 5;
        }
        List<Mark> others = allMarks().stream()
                .filter(o -> !same(o, m) && isSamePerson(m, o) && o.it().mark == 1 && writer(o) == NONE).toList();
        boolean elsewhere = others.stream().anyMatch(o -> o.of != m.of);
        boolean near = others.stream().allMatch(o -> bits(o.it().hand, m.it().hand) <= land.picture());
        return elsewhere && near ? 4 : 3;
    }

    private static boolean isSamePerson(Mark a, Mark b) {
        return a.it().person != 0 && a.it().person == b.it().person;
    }

    private boolean able(Mark m) {
        int kind = kind(m);
        return kind == 2 || kind == 3;
    }

    private long apart(int a, int b) {
        bad(out(a, 0, 255) || out(b, 0, 255));
        return bits(a, b);
    }

    private long tear(int m) {
        bad(out(m, 0, marriages.size() - 1));
        marriages.remove(m);
        return marriages.size();
    }

    // ---- choices

    private long choose(int c, int parishes, int from, int to, int sides, int trades) {
        bad(out(c, 0, 1) || out(parishes, 0, (1 << land.parishes.size()) - 1) || out(from, 0, 89) || out(to, 0, 89)
                || from > to || out(sides, 0, 3) || out(trades, 0, 255));
        choices[c] = new Choice(parishes, from, to, sides, trades);
        return marks(c).size();
    }

    private static boolean bit(int bits, int i) {
        return (bits & 1 << i) != 0;
    }

    private List<Mark> marks(int c) {
        bad(out(c, 0, 1));
        Choice it = choices[c];
        return allMarks().stream().filter(m -> bit(it.parishes, m.of.parish) && m.of.year >= it.from
                && m.of.year <= it.to && bit(it.sides, m.side) && bit(it.trades, m.of.trade)).toList();
    }

    private int ables(List<Mark> marks) {
        return (int) marks.stream().filter(this::able).count();
    }

    private long many(int c, int what) {
        bad(out(c, 0, 1) || out(what, 0, 2) && out(what, 11, 15));
        List<Mark> marks = marks(c);
        return switch (what) {
            case 0 -> marks.size();
            case 1 -> ables(marks);
            case 2 -> marks.stream().filter(m -> m.it().mark == 0).count();
            default -> marks.stream().filter(m -> kind(m) == what - 10).count();
        };
    }

    private Fraction shareOf(List<Mark> marks) {
        refuse(marks.isEmpty(), NONE);
        return Fraction.of(ables(marks), marks.size());
    }

    private long share(int c, int what) {
        bad(out(c, 0, 1) || out(what, 0, 1));
        return shareOf(marks(c)).tell(what);
    }

    private static ToIntFunction<Mark> grouping(int groups) {
        return switch (groups) {
            case 0 -> m -> m.of.parish;
            case 1 -> m -> m.of.trade;
            case 2 -> m -> m.side;
            default -> m -> m.it().born;
        };
    }

    private static List<Mark> group(List<Mark> marks, int groups, int g) {
        return marks.stream().filter(m -> grouping(groups).applyAsInt(m) == g).toList();
    }

    private long best(int c, int groups, int n, int what) {
        bad(out(c, 0, 1) || out(groups, 0, 3) || out(n, 1, 99) || out(what, 0, 2));
        List<Mark> marks = marks(c);
        int best = NONE;
        for (int g = 11; g >= 0; g--) {
            List<Mark> these = group(marks, groups, g);
            if (these.size() >= n && (best == NONE
                    || shareOf(these).compareTo(shareOf(group(marks, groups, best))) >= 0)) {
                best = g;
            }
        }
        refuse(best == NONE, NONE);
        List<Mark> these = group(marks, groups, best);
        return new int[] {best, these.size(), ables(these)}[what];
    }

    private long pairsOf(int c, int groom, int bride) {
        List<Mark> marks = marks(c);
        return marriages.stream().filter(m -> marks.contains(new Mark(m, 0)) && marks.contains(new Mark(m, 1))
                && m.sides[0].mark == groom && m.sides[1].mark == bride).count();
    }

    private long pairs(int c, int what) {
        bad(out(c, 0, 1) || out(what, 0, 3));
        return new long[] {pairsOf(c, 0, 0), pairsOf(c, 0, 1), pairsOf(c, 1, 0), pairsOf(c, 1, 1)}[what];
    }

    private long spared(int c, int what) {
        bad(out(c, 0, 1) || out(what, 0, 1));
        long besideName = pairsOf(c, 1, 0) + pairsOf(c, 1, 1);
        refuse(besideName == 0, NONE);
        Fraction would = Fraction.of((pairsOf(c, 0, 0) + pairsOf(c, 0, 1)) * pairsOf(c, 1, 0), besideName);
        Fraction beyond = Fraction.of(pairsOf(c, 0, 0), 1).minus(would);
        Fraction least = Fraction.of(0, 1);
        return (beyond.compareTo(least) < 0 ? least : beyond).tell(what);
    }

    // ---- back, by ages

    /** 2 surely, 1 perhaps, 0 not. */
    private int certainty(Mark m, int a, int b) {
        int least = m.it().age == 0 ? land.ages()[0] : m.it().age;
        int greatest = m.it().age == 0 ? land.ages()[1] : m.it().age;
        int in = 0;
        for (int age = least; age <= greatest; age++) {
            in += out(m.of.year - age + land.learn(), a, b) ? 0 : 1;
        }
        return in == greatest - least + 1 ? 2 : in > 0 ? 1 : 0;
    }

    private int learntOf(int c, int a, int b, int certainty, boolean able) {
        return (int) marks(c).stream().filter(m -> certainty(m, a, b) == certainty && able(m) == able).count();
    }

    private static void badYears(int c, int a, int b, int what) {
        bad(out(c, 0, 1) || out(a, -60, 89) || out(b, -60, 89) || b < a || out(what, 0, 3));
    }

    private long learnt(int c, int a, int b, int what) {
        badYears(c, a, b, what);
        int able = learntOf(c, a, b, what % 2 == 0 ? 2 : 1, true);
        return what >= 2 ? able : able + learntOf(c, a, b, what % 2 == 0 ? 2 : 1, false);
    }

    private long bounds(int c, int a, int b, int what) {
        badYears(c, a, b, what);
        int able = learntOf(c, a, b, 2, true) + (what < 2 ? 0 : learntOf(c, a, b, 1, true));
        int unable = learntOf(c, a, b, 2, false) + (what < 2 ? learntOf(c, a, b, 1, false) : 0);
        refuse(able + unable == 0, NONE);
        return Fraction.of(able, able + unable).tell(what);
    }

    private long tens(int c, int what) {
        refuse(out(c, 0, 1) || out(what, 0, 1), -1000);
        long best = 0;
        int most = 0;
        for (int ten = -60; ten <= 80; ten += 10) {
            int from = ten;
            int many = (int) marks(c).stream()
                    .filter(m -> m.it().age != 0 && certainty(m, from, from + 9) == 2).count();
            if (many > most) {
                most = many;
                best = ten;
            }
        }
        refuse(most == 0, -1004);
        return what == 0 ? best : most;
    }

    // ---- the land by drawn parishes

    private int all() {
        return land.parishes.stream().mapToInt(Parish::all).sum();
    }

    private Fraction spanBound(int drawn, boolean greatest) {
        Fraction sum = Fraction.of(0, 1);
        for (int p = 0; p < land.parishes.size(); p++) {
            Fraction these = Fraction.of(land.parishes.get(p).all, 1);
            if (bit(drawn, p)) {
                sum = sum.plus(these.times(shareOf(group(marks(0), 0, p))));
            } else if (greatest) {
                sum = sum.plus(these);
            }
        }
        return sum.times(Fraction.of(1, all()));
    }

    private Fraction width(int drawn) {
        return spanBound(drawn, true).minus(spanBound(drawn, false));
    }

    private boolean canBeDrawn(int bits) {
        for (int p = 0; p < land.parishes.size(); p++) {
            if (bit(bits, p) && group(marks(0), 0, p).isEmpty()) {
                return false;
            }
        }
        return true;
    }

    private void badDrawn(int bits) {
        bad(out(bits, 0, (1 << land.parishes.size()) - 1) || !canBeDrawn(bits));
    }

    private long span(int bits, int what) {
        badDrawn(bits);
        bad(out(what, 0, 3));
        refuse(land.parishes.isEmpty(), NONE);
        return spanBound(bits, what >= 2).tell(what);
    }

    private long next(int bits) {
        badDrawn(bits);
        int best = NONE;
        for (int p = 0; p < land.parishes.size(); p++) {
            if (!bit(bits, p) && canBeDrawn(1 << p)
                    && (best == NONE || width(bits | 1 << p).compareTo(width(bits | 1 << best)) < 0)) {
                best = p;
            }
        }
        return best;
    }

    private long enough(int a, int b, int what) {
        bad(out(b, 1, 999) || out(a, 0, b) || out(what, 0, 1));
        refuse(land.parishes.isEmpty(), NONE);
        int can = 0;
        for (int p = 0; p < land.parishes.size(); p++) {
            can |= canBeDrawn(1 << p) ? 1 << p : 0;
        }
        int best = NONE;
        for (int bits = 0; bits < 1 << land.parishes.size(); bits++) {
            if ((bits & ~can) == 0 && (best == NONE || Integer.bitCount(bits) < Integer.bitCount(best))
                    && isNarrow(bits, a, b)) {
                best = bits;
            }
        }
        refuse(best == NONE, NONE);
        return what == 0 ? Integer.bitCount(best) : best;
    }

    /** The width is all that is not drawn by all there is: the same as width(bits), for 4096 of them at once. */
    private boolean isNarrow(int bits, int a, int b) {
        long rest = 0;
        for (int p = 0; p < land.parishes.size(); p++) {
            rest += bit(bits, p) ? 0 : land.parishes.get(p).all;
        }
        return Fraction.of(rest, all()).compareTo(Fraction.of(a, b)) <= 0;
    }

    private long reading(int c, int what) {
        bad(out(c, 0, 1) || out(what, 0, 1));
        List<Mark> marks = marks(c);
        refuse(marks.isEmpty(), NONE);
        Fraction sum = Fraction.of(0, 1);
        for (Mark m : marks) {
            int[] tried = land.tried(m.it().mark);
            sum = sum.plus(Fraction.of(tried[0], tried[1]));
        }
        return sum.times(Fraction.of(1, marks.size())).tell(what);
    }

    private long unwed(int c, int what) {
        bad(out(c, 0, 1) || out(what, 0, 3));
        int people = marks(c).size() + land.never();
        refuse(people == 0, NONE);
        return Fraction.of(ables(marks(c)) + (what < 2 ? 0 : land.never()), people).tell(what);
    }

    // ---- changes

    private long parts(int groups, int what) {
        bad(out(groups, 0, 3) || out(what, 0, 5));
        List<Mark> first = marks(0);
        List<Mark> second = marks(1);
        refuse(first.isEmpty() || second.isEmpty(), NONE);
        if (what >= 4) {
            return shareOf(second).minus(shareOf(first)).tell(what);
        }
        Fraction sum = Fraction.of(0, 1);
        for (int g = 0; g < 12; g++) {
            List<Mark> ofFirst = group(first, groups, g);
            List<Mark> ofSecond = group(second, groups, g);
            if (ofFirst.isEmpty() && ofSecond.isEmpty()) {
                continue;
            }
            Fraction w0 = Fraction.of(ofFirst.size(), first.size());
            Fraction w1 = Fraction.of(ofSecond.size(), second.size());
            Fraction r0 = shareOf(ofFirst.isEmpty() ? ofSecond : ofFirst);
            Fraction r1 = shareOf(ofSecond.isEmpty() ? ofFirst : ofSecond);
            sum = sum.plus(what < 2 ? w1.minus(w0).times(r0.plus(r1)) : r1.minus(r0).times(w0.plus(w1)));
        }
        return sum.times(Fraction.of(1, 2)).tell(what);
    }

    private boolean hasBy(int kind, int p, int year) {
        int since = kind == 0 ? land.parishes.get(p).mill : land.parishes.get(p).school;
        return since != NONE && since <= year;
    }

    private long worth(int kind, int year, int what) {
        refuse(out(kind, 0, 1) || out(year, 0, 89) || out(what, 0, 1), -1000000);
        Fraction[] gains = new Fraction[2];
        for (int with = 0; with < 2; with++) {
            boolean wanted = with == 1;
            List<Mark> these = marks(0).stream().filter(m -> hasBy(kind, m.of.parish, year) == wanted).toList();
            List<Mark> ahead = these.stream().filter(m -> m.of.year < year).toList();
            List<Mark> since = these.stream().filter(m -> m.of.year >= year).toList();
            refuse(ahead.isEmpty() || since.isEmpty(), -1000004);
            gains[with] = shareOf(since).minus(shareOf(ahead));
        }
        return gains[1].minus(gains[0]).tell(what);
    }

    // ---- who stands there twice

    private List<Mark> marksOf(int person) {
        return allMarks().stream().filter(m -> m.it().person == person).toList();
    }

    private static boolean isAhead(Mark a, Mark b, int mark) {
        return a.it().mark == mark && b.it().mark == 1 - mark && a.of.year < b.of.year;
    }

    private long person(int p, int what) {
        bad(out(p, 1, 99) || out(what, 0, 4));
        List<Mark> marks = marksOf(p);
        List<Mark> names = marks.stream().filter(m -> m.it().mark == 1).toList();
        if (what == 4) {
            refuse(names.size() < 2, NONE);
            int most = 0;
            for (Mark a : names) {
                for (Mark b : names) {
                    most = Math.max(most, bits(a.it().hand, b.it().hand));
                }
            }
            return most;
        }
        boolean crossFirst = marks.stream().anyMatch(a -> marks.stream().anyMatch(b -> isAhead(a, b, 0)));
        boolean nameFirst = marks.stream().anyMatch(a -> marks.stream().anyMatch(b -> isAhead(a, b, 1)));
        return new int[] {marks.size(), names.size(), crossFirst ? 1 : 0, nameFirst ? 1 : 0}[what];
    }

    private long twice(int what) {
        bad(out(what, 0, 2));
        int many = 0;
        int least = NONE;
        int both = 0;
        for (int p = 99; p >= 1; p--) {
            List<Mark> marks = marksOf(p);
            if (marks.size() >= 2) {
                many++;
                least = p;
                both += marks.stream().mapToInt(m -> m.it().mark).distinct().count() == 2 ? 1 : 0;
            }
        }
        return new int[] {many, least, both}[what];
    }

    private long find(int parish, int n, int what) {
        bad(out(parish, 0, land.parishes.size() - 1) || out(n, 0, 4) || out(what, 0, 1));
        int[] hands = allMarks().stream().filter(m -> m.of.parish == parish && m.it().mark == 1)
                .mapToInt(m -> m.it().hand).toArray();
        refuse(hands.length == 0, NONE);
        long most = -1;
        int best = -1;
        for (int hand = 0; hand < 256; hand++) {
            int h = hand;
            long near = Arrays.stream(hands).filter(o -> bits(o, h) <= n).count();
            if (near > most) {
                most = near;
                best = hand;
            }
        }
        return what == 0 ? best : most;
    }

    // ---- images, sheets

    private static List<Marriage> copyOf(List<Marriage> from) {
        return new ArrayList<>(from.stream().map(Marriage::copy).toList());
    }

    private long keep(int k) {
        bad(out(k, 0, 1));
        int was = images[k] == null ? 0 : 1;
        images[k] = new Image();
        images[k].marriages = copyOf(marriages);
        images[k].choices = choices.clone();
        return was;
    }

    private long back(int k) {
        bad(out(k, 0, 1));
        Image image = images[k];
        refuse(image == null, STATE);
        refuse(image.marriages.stream().anyMatch(m -> m.parish >= land.parishes.size()), STATE);
        marriages = copyOf(image.marriages);
        int there = (1 << land.parishes.size()) - 1;
        for (int c = 0; c < 2; c++) {
            Choice it = image.choices[c];
            choices[c] = new Choice(it.parishes & there, it.from, it.to, it.sides, it.trades);
        }
        return marriages.size();
    }

    private long sheet(int k, int lane, int n) {
        bad(out(k, 0, 3) || out(lane, 0, 2) || n > 60);
        try {
            sheets[k] = lane == 0 ? new byte[n] : lane == 1 ? new short[n] : new int[n];
        } catch (NegativeArraySizeException e) {
            return -14;
        }
        return 1;
    }

    private long lay(int k, int i, int v) {
        bad(out(k, 0, 3));
        try {
            if (sheets[k] instanceof byte[] row) {
                row[i] = (byte) v;
            } else if (sheets[k] instanceof short[] row) {
                row[i] = (short) v;
            } else {
                ((int[]) sheets[k])[i] = v;
            }
        } catch (NullPointerException e) {
            return -11;
        } catch (IndexOutOfBoundsException e) {
            return -12;
        }
        return 1;
    }

    private static int cell(Object sheet, int lane, int i) {
        return lane == 0 ? ((byte[]) sheet)[i] : lane == 1 ? ((short[]) sheet)[i] : ((int[]) sheet)[i];
    }

    private long read(int k, int lane, int f, int n) {
        bad(out(k, 0, 3) || out(lane, 0, 2) || out(n, 0, 12));
        List<Marriage> came = new ArrayList<>();
        int found = 0;
        try {
            for (int i = 0; i < n; i++) {
                int[] cells = new int[5];
                for (int j = 0; j < 5; j++) {
                    cells[j] = cell(sheets[k], lane, f + 5 * i + j);
                }
                badMarriage(cells[0], cells[1], cells[2], cells[3], cells[4], -20 - i);
                refuse(marriages.size() + came.size() == 40, FULL);
                came.add(marriage(cells[0], cells[1], cells[2], cells[3], cells[4]));
            }
        } catch (NullPointerException e) {
            found = 1;
        } catch (IndexOutOfBoundsException e) {
            found = 2;
        } catch (ClassCastException e) {
            found = 3;
        }
        torn = found;
        marriages.addAll(came);
        return came.size();
    }

    private long count(int what) {
        bad(out(what, 0, 4));
        return switch (what) {
            case 0 -> marriages.size();
            case 1 -> tape.length();
            case 2 -> sheets[0] == null ? NONE : java.lang.reflect.Array.getLength(sheets[0]);
            case 3 -> (images[0] == null ? 0 : 1) + (images[1] == null ? 0 : 1);
            default -> land.parishes.stream().mapToInt(Parish::town).sum();
        };
    }
}
