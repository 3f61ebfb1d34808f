import java.lang.reflect.InvocationTargetException;
import java.lang.reflect.Method;
import java.lang.reflect.Modifier;
import java.util.ArrayList;
import java.util.Arrays;
import java.util.Comparator;
import java.util.List;
import java.util.Random;

/**
 * All promises: runs of up to 512 calls, made up by a random source with a fixed seed, asked of the class and of
 * PlainModel. "java ModelTest SEED RUNS" asks more of them.
 */
public final class ModelTest {
    private static final int[] EDGES = {Integer.MIN_VALUE, Integer.MAX_VALUE, -1000, -61, -1, 61, 90, 100, 256, 1000, 4096};
    private static final Method[] CALLS = publicCalls();

    private final Random random;
    private final CrossOrName asked = new CrossOrName();
    private final PlainModel model = new PlainModel();
    private final List<String> asWritten = new ArrayList<>();
    private final int persons;
    private final int handBits;
    private int parishes = 0;

    private ModelTest(long seed) {
        random = new Random(seed);
        persons = 1 + random.nextInt(12);
        handBits = random.nextInt(256) & random.nextInt(256) | 1;
    }

    public static void main(String[] args) throws Exception {
        long first = args.length > 0 ? Long.parseLong(args[0]) : 1;
        int runs = args.length > 1 ? Integer.parseInt(args[1]) : 250;
        for (long seed = first; seed < first + runs; seed++) {
            new ModelTest(seed).run();
        }
        System.out.println("ModelTest: " + runs + " runs, all as the model");
    }

    /** In the order of their names: the machine tells them in any. */
    private static Method[] publicCalls() {
        return Arrays.stream(CrossOrName.class.getDeclaredMethods()).filter(m -> Modifier.isPublic(m.getModifiers()))
                .sorted(Comparator.comparing(Method::getName)).toArray(Method[]::new);
    }

    /** First a land and its books, then questions with a change now and then. */
    private void run() throws Exception {
        tellLand(random.nextInt(10) != 0);
        int marriages = random.nextInt(45);
        for (int m = 0; m < marriages; m++) {
            marry();
        }
        int sets = random.nextInt(180);
        for (int i = 0; i < sets; i++) {
            setSomething();
        }
        for (int turn = 0; turn < 400 && asWritten.size() < 470; turn++) {
            int die = random.nextInt(200);
            if (die < 10) {
                marry();
            } else if (die < 25) {
                setSomething();
            } else if (die < 27) {
                aSheet();
            } else if (die == 27) {
                tellLand(random.nextBoolean());
            } else {
                askAnything();
            }
        }
    }

    private void marry() throws Exception {
        ask("marry", pick(parishes), pick(90), pick(8), pick(2), pick(2));
    }

    private void setSomething() throws Exception {
        int m = pick((int) Math.max(1, model.ask("count", new long[] {0})));
        int what = pick(5);
        int v = switch (what) {
            case 1 -> random.nextInt(5) == 0 ? 0 : 16 + pick(45);
            case 2 -> random.nextInt(256) & handBits;
            case 3 -> pick(persons + 1);
            default -> pick(2);
        };
        ask("set", m, pick(2), what, v);
    }

    private void aSheet() throws Exception {
        int k = pick(4);
        int lane = random.nextInt(3);
        int marriages = 1 + random.nextInt(3);
        ask("sheet", k, lane, 5 * marriages + random.nextInt(4));
        for (int i = 0; i < marriages; i++) {
            int[] cells = {pick(parishes), pick(90), pick(8), pick(2), pick(2)};
            for (int j = 0; j < 5; j++) {
                ask("lay", k, 5 * i + j, cells[j]);
            }
        }
        ask("read", k, random.nextInt(8) == 0 ? pick(3) : lane, random.nextInt(4) == 0 ? pick(60) : 0, pick(5));
        ask("torn");
    }

    private void askAnything() throws Exception {
        Method call = CALLS[random.nextInt(CALLS.length)];
        String name = call.getName();
        boolean spoils = name.equals("land") || name.equals("tear") || name.equals("back");
        if (name.equals("feed") || spoils && random.nextInt(name.equals("land") ? 20 : 3) != 0) {
            return;
        }
        long[] args = new long[call.getParameterCount()];
        int[] bounds = boundsOf(name);
        for (int i = 0; i < args.length; i++) {
            args[i] = pick(bounds[i]);
        }
        if (name.equals("learnt") || name.equals("bounds")) {
            args[1] = pick(150) - 60;
            args[2] = Math.min(args[1] + pick(40), random.nextInt(9) == 0 ? 90 : 89);
        }
        if (name.equals("choose")) {
            args[1] = random.nextBoolean() ? (1 << parishes) - 1 : args[1];
            args[3] = random.nextBoolean() ? 89 : args[3];
            args[4] = random.nextInt(3) != 0 ? 3 : args[4];
            args[5] = random.nextInt(3) != 0 ? 255 : args[5];
        }
        if (name.equals("many") && random.nextBoolean()) {
            args[1] += 10;
        }
        ask(name, args);
    }

    /** For each argument how many numbers from 0 on are worth asking. */
    private int[] boundsOf(String name) {
        int all = 1 << parishes;
        int m = (int) Math.max(1, model.ask("count", new long[] {0}));
        return switch (name) {
            case "end" -> new int[] {320};
            case "told" -> new int[] {11};
            case "parish" -> new int[] {parishes, 5};
            case "clerk" -> new int[] {8, 6};
            case "marry" -> new int[] {parishes, 90, 8, 2, 2};
            case "set" -> new int[] {m, 2, 5, 100};
            case "of" -> new int[] {m, 3};
            case "has" -> new int[] {m, 2, 5};
            case "kind", "writer" -> new int[] {m, 2};
            case "apart" -> new int[] {256, 256};
            case "tear" -> new int[] {2 * m};
            case "choose" -> new int[] {2, all, 90, 90, 4, 256};
            case "many" -> new int[] {2, 6};
            case "share", "spared", "tens", "reading" -> new int[] {2, 2};
            case "best" -> new int[] {2, 4, 20, 3};
            case "pairs", "unwed" -> new int[] {2, 4};
            case "learnt", "bounds" -> new int[] {2, 90, 90, 4};
            case "span" -> new int[] {all, 4};
            case "next" -> new int[] {all};
            case "enough" -> new int[] {60, 120, 2};
            case "parts" -> new int[] {4, 6};
            case "worth" -> new int[] {2, 90, 2};
            case "person" -> new int[] {persons + 1, 5};
            case "twice" -> new int[] {3};
            case "find" -> new int[] {parishes, 5, 2};
            case "keep", "back" -> new int[] {2};
            case "sheet" -> new int[] {4, 3, 60};
            case "lay" -> new int[] {4, 60, 100};
            case "read" -> new int[] {4, 3, 10, 13};
            case "count" -> new int[] {5};
            default -> new int[0];
        };
    }

    private int pick(int below) {
        if (random.nextInt(60) == 0) {
            return random.nextInt(3) == 0 ? EDGES[random.nextInt(EDGES.length)] : random.nextBoolean() ? below : -1;
        }
        return random.nextInt(Math.max(1, below));
    }

    private void tellLand(boolean sound) throws Exception {
        String told = landText();
        told = sound ? told : spoilt(new StringBuilder(told));
        ask("end", 0);
        for (int i = 0; i < told.length(); i += 8) {
            long eight = 0;
            for (int j = i; j < i + 8; j++) {
                eight = eight << 8 | (j < told.length() ? told.charAt(j) : ' ');
            }
            ask("feed", eight);
        }
        ask("end", told.length());
        ask("land");
        ask("fault");
        parishes = (int) model.ask("told", new long[] {0});
    }

    /** Lines that fit each other, as many as the tape takes. */
    private String landText() {
        int most = 20 + random.nextInt(300);
        int many = 1 + random.nextInt(12);
        List<String> lines = new ArrayList<>();
        for (int p = 0; p < many; p++) {
            lines.add(parishLine());
        }
        for (int k = random.nextInt(9); k > 0; k--) {
            int from = random.nextInt(90);
            lines.add(lines.size() / 2 + random.nextInt(lines.size() - lines.size() / 2 + 1), words("clerk",
                    random.nextInt(Math.max(1, many / 2)), from, from + random.nextInt(90 - from),
                    random.nextInt(256) & handBits, random.nextInt(3)));
        }
        int couldRead = random.nextInt(1000);
        int leastAge = 16 + random.nextInt(45);
        String[] once = {words("tried cross", random.nextInt(10), 10 + random.nextInt(90)),
            words("tried name", couldRead, Math.max(1, couldRead) + random.nextInt(1000 - Math.max(1, couldRead))),
            words("learn", 5 + random.nextInt(16)), words("ages", leastAge, leastAge + random.nextInt(61 - leastAge)),
            words("never", random.nextInt(1000)), words("picture", random.nextInt(9))};
        for (String line : once) {
            if (random.nextBoolean()) {
                lines.add(random.nextInt(lines.size() + 1), line);
            }
        }
        StringBuilder text = new StringBuilder();
        for (String line : lines) {
            if (text.length() + line.length() < most) {
                text.append(line).append(random.nextInt(9) == 0 ? " ; " : ";");
            }
        }
        return text.length() > 320 ? text.substring(0, 320) : text.toString();
    }

    private String parishLine() {
        return words("parish", 1 + random.nextInt(random.nextBoolean() ? 30 : 999))
                + (random.nextInt(3) == 0 ? " town" : "")
                + (random.nextInt(3) == 0 ? words(" mill", random.nextInt(90)) : "")
                + (random.nextInt(3) == 0 ? words(" school", random.nextInt(90)) : "");
    }

    private String words(String name, int... numbers) {
        StringBuilder line = new StringBuilder(name);
        for (int i = 0; i < numbers.length; i++) {
            line.append(i == 0 && random.nextInt(5) == 0 ? "" : random.nextInt(9) == 0 ? "  " : " ").append(numbers[i]);
        }
        return line.toString();
    }

    private String spoilt(StringBuilder text) {
        int at = random.nextInt(text.length() + 1);
        switch (random.nextInt(6)) {
            case 0 -> text.delete(at, at + 1);
            case 1 -> text.insert(at, text.substring(0, Math.min(at, 30)));
            case 2 -> text.insert(at, random.nextInt(1200));
            case 3 -> text.append(text.substring(text.lastIndexOf(";", at) + 1));
            case 4 -> text.insert(at, " ;a0z9#\u00e9\t".charAt(random.nextInt(9)));
            default -> text.setLength(at);
        }
        return text.substring(0, Math.min(320, text.length()));
    }

    private void ask(String name, long... args) throws Exception {
        StringBuilder row = new StringBuilder(name).append(Arrays.toString(args));
        asWritten.add(row.toString());
        long want = model.ask(name, args);
        long got;
        try {
            got = answerOf(name, args);
        } catch (InvocationTargetException e) {
            System.out.println(String.join("\n", asWritten));
            throw e;
        }
        if (got != want) {
            System.out.println(String.join("\n", asWritten));
            System.out.println("ModelTest: " + row + " answered " + got + ", due is " + want);
            System.exit(1);
        }
    }

    private long answerOf(String name, long[] args) throws Exception {
        for (Method call : CALLS) {
            if (call.getName().equals(name)) {
                Object[] boxed = new Object[args.length];
                for (int i = 0; i < args.length; i++) {
                    boxed[i] = call.getParameterTypes()[i] == long.class ? (Object) args[i] : (Object) (int) args[i];
                }
                return ((Number) call.invoke(asked, boxed)).longValue();
            }
        }
        throw new IllegalStateException(name);
    }
}
