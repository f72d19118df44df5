import java.lang.reflect.Method;
import java.util.Arrays;
import java.util.HashMap;
import java.util.Map;
import java.util.Random;

/**
 * Runs of calls by a seed, each answer against that of Oracle. Arguments: how many runs (300 else)
 * and the first seed (1 else).
 */
public final class RandomTest {
    private static final Map<String, Method> MINE = methods(MatchTrees.class);
    private static final Map<String, Method> THEIRS = methods(Oracle.class);
    private static final String[] CALLS = {
        "has", "letter", "values", "arm", "arm", "fits", "holds", "missing", "taken", "text", "octet", "tree", "tree",
        "first", "scopes", "scopes", "safe", "safe", "best", "sets", "tells", "run", "chance", "swap", "swap", "drop",
        "turn", "turn", "choose", "undo", "undo", "seed", "kept", "kept", "image", "status", "fault", "end", "see",
        "see", "on", "row", "feed"
    };
    private static final int[] WILD = {Integer.MIN_VALUE, Integer.MAX_VALUE, -2, -1, 256, 65536, 1000, 13};

    private static MatchTrees mine;
    private static Oracle theirs;
    private static Maker maker;
    private static Random random;
    private static String run;

    private static Map<String, Method> methods(Class<?> of) {
        Map<String, Method> all = new HashMap<>();
        for (Method m : of.getDeclaredMethods()) {
            if (java.lang.reflect.Modifier.isPublic(m.getModifiers())) {
                m.setAccessible(true);
                all.put(m.getName(), m);
            }
        }
        return all;
    }

    private static int number(Object answer) {
        return answer instanceof Boolean b ? b ? 1 : 0 : (Integer) answer;
    }

    private static int call(String name, Integer... args) throws ReflectiveOperationException {
        int got = number(MINE.get(name).invoke(mine, (Object[]) args));
        int want = number(THEIRS.get(name).invoke(theirs, (Object[]) args));
        Given.due(run + ": " + name + Arrays.toString(args), got, want);
        return want;
    }

    private static void put(byte[] bytes) throws ReflectiveOperationException {
        for (int from = 0; from < bytes.length; from += 20) {
            Integer[] n = {0, 0, 0, 0, 0};
            for (int i = 0; i < 20; i++) {
                n[i / 4] = n[i / 4] << 8 | (from + i < bytes.length ? bytes[from + i] & 255 : 32);
            }
            call("feed", n);
        }
        call("end", bytes.length);
    }

    private static void put(String text) throws ReflectiveOperationException {
        put(text.getBytes(java.nio.charset.StandardCharsets.ISO_8859_1));
    }

    private static int below(int n) {
        return random.nextInt(n);
    }

    private static boolean chance(int ofHundred) {
        return below(100) < ofHundred;
    }

    private static void see() throws ReflectiveOperationException {
        int rows = chance(90) ? 1 + below(3) : below(18);
        byte[] bytes = new byte[3 * rows + (chance(95) ? 0 : 1)];
        int there = theirs.has(3);
        for (int i = 0; i < rows; i++) {
            int row = there > 0 && chance(97) ? below(there) : below(65536);
            int place = chance(70) ? theirs.taken(row) : chance(90) ? below(theirs.has(4) + 1) : below(256);
            bytes[3 * i] = (byte) (row >> 8);
            bytes[3 * i + 1] = (byte) row;
            bytes[3 * i + 2] = (byte) (place < 0 ? 255 : place);
        }
        put(bytes);
        call("see");
    }

    private static void on() throws ReflectiveOperationException {
        int length = call("image");
        byte[] bytes = new byte[length];
        for (int k = 0; k < length; k++) {
            bytes[k] = (byte) call("octet", k);
        }
        for (int tries = below(3); tries > 0; tries--) {
            if (chance(60)) {
                bytes[below(length)] = (byte) (chance(90) ? below(13) : below(256));
            }
            if (chance(60)) {
                int c = 199;
                for (int k = 0; k < length - 1; k++) {
                    c = (5 * c + (bytes[k] & 255)) % 251;
                }
                bytes[length - 1] = (byte) c;
            }
            call("turn", below(8));
            call("end", 0);
            put(bytes);
            if (chance(5)) {
                call("end", length - 1);
            }
            call("on");
            calls(3);
        }
    }

    private static Integer[] args(String name) {
        Integer[] a = new Integer[MINE.get(name).getParameterCount()];
        for (int i = 0; i < a.length; i++) {
            a[i] = chance(3) ? WILD[below(WILD.length)] : usual(name, i);
        }
        return a;
    }

    private static int usual(String name, int i) {
        int arms = Math.max(1, theirs.has(4));
        int rows = Math.max(1, theirs.has(3));
        int columns = Math.max(1, theirs.has(2));
        return switch (name) {
            case "has" -> below(12);
            case "letter" -> i == 0 ? below(2) : below(6);
            case "values" -> below(5) - 1;
            case "arm" -> i == 0 ? below(arms) : below(5);
            case "fits" -> i == 0 ? below(arms) : i == 1 ? below(columns) : below(24);
            case "missing" -> chance(50) ? -1 : below(rows);
            case "taken", "text" -> below(rows);
            case "run" -> below(rows + 1);
            case "holds", "safe", "swap" -> below(arms);
            case "drop" -> chance(30) ? below(arms) : 40;
            case "octet" -> below(20);
            case "tree" -> below(4);
            case "first", "choose" -> below(4);
            case "scopes" -> i == 2 ? below(30) : below(4);
            case "best", "tells", "fault" -> below(2);
            case "sets" -> chance(50) ? -1 : below(64);
            case "chance" -> 1 + below(chance(80) ? 5 : 40);
            case "turn" -> below(8);
            case "seed" -> random.nextInt();
            case "kept" -> i == 0 ? below(40) : below(3);
            case "status" -> below(6);
            case "end" -> below(40);
            default -> random.nextInt();
        };
    }

    private static void calls(int count) throws ReflectiveOperationException {
        for (int i = 0; i < count; i++) {
            String name = CALLS[below(CALLS.length)];
            if (name.equals("see") && chance(90)) {
                see();
            } else if (name.equals("on") && chance(90)) {
                on();
            } else if (name.equals("row")) {
                call("end", 0);
                put(chance(70) ? maker.row() : maker.mar(maker.row()));
                call("row");
                call("fault", 0);
                call("fault", 1);
            } else if (!name.equals("feed") || chance(10)) {
                call(name, args(name));
            }
        }
    }

    private static void run(long seed) throws ReflectiveOperationException {
        run = "run " + seed;
        maker = new Maker(seed);
        random = maker.random;
        mine = new MatchTrees();
        theirs = new Oracle();
        if (chance(10)) {
            calls(20);
        }
        int matches = 1 + below(3);
        for (int i = 0; i < matches; i++) {
            String text = maker.match(chance(50) ? 40 : 400);
            call("end", 0);
            put(chance(90) ? text : maker.mar(text));
            call("match");
            call("fault", 0);
            call("fault", 1);
            calls(100);
        }
    }

    private static void faults(long seed) throws ReflectiveOperationException {
        run = "faults " + seed;
        maker = new Maker(seed);
        random = maker.random;
        mine = new MatchTrees();
        theirs = new Oracle();
        for (int i = 0; i < 40; i++) {
            String text = maker.match(chance(50) ? 400 : 20000);
            put(chance(95) ? maker.mar(text) : text);
            call("match");
            call("fault", 0);
            call("fault", 1);
            for (int what = 0; what <= 4; what++) {
                call("has", what);
            }
            put(maker.mar(maker.row()));
            call("row");
            call("fault", 0);
            call("fault", 1);
        }
    }

    public static void main(String[] args) throws ReflectiveOperationException {
        int runs = args.length > 0 ? Integer.parseInt(args[0]) : 300;
        long first = args.length > 1 ? Long.parseLong(args[1]) : 1;
        for (long seed = first; seed < first + runs && Given.wrong < 20; seed++) {
            run(seed);
            faults(seed);
        }
        Given.finish();
    }
}
