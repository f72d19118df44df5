import java.lang.management.ManagementFactory;
import java.lang.reflect.InvocationTargetException;
import java.lang.reflect.Method;
import java.lang.reflect.Modifier;
import java.util.Arrays;
import java.util.Comparator;
import java.util.Random;

/** Wild arguments in any state, tapes of any bytes, and the room that dear calls take. */
public final class LimitTest {
    private static final int[] WILD = {Integer.MIN_VALUE, Integer.MIN_VALUE + 1, -1000000, -256, -3, -2, -1, 0, 1, 2, 3,
        4, 5, 6, 7, 8, 11, 12, 13, 15, 16, 19, 20, 31, 32, 33, 40, 41, 63, 64, 255, 256, 999, 1000, 1600, 2048, 4096,
        19999, 20000, 65535, 65536, 1 << 30, Integer.MAX_VALUE - 1, Integer.MAX_VALUE};

    private static Method[] calls() {
        return Arrays.stream(MatchTrees.class.getDeclaredMethods())
            .filter(m -> Modifier.isPublic(m.getModifiers()))
            .sorted(Comparator.comparing(Method::getName))
            .toArray(Method[]::new);
    }

    private static void wild(long seed) throws ReflectiveOperationException {
        Random random = new Random(seed);
        Maker maker = new Maker(seed);
        MatchTrees x = new MatchTrees();
        Method[] calls = calls();
        if (seed % 4 > 0) {
            Given.put(x, maker.match(seed % 4 == 1 ? 20000 : 500));
            x.match();
        }
        for (int i = 0; i < 450; i++) {
            Method m = calls[random.nextInt(calls.length)];
            if (m.getName().equals("match") && random.nextInt(10) > 0) {
                continue;
            }
            if (random.nextInt(20) == 0) {
                byte[] bytes = new byte[random.nextInt(60)];
                random.nextBytes(bytes);
                Given.put(x, bytes);
            }
            Object[] args = new Object[m.getParameterCount()];
            for (int a = 0; a < args.length; a++) {
                args[a] = random.nextBoolean() ? WILD[random.nextInt(WILD.length)] : random.nextInt(14) - 1;
            }
            try {
                m.invoke(x, args);
                Given.checks++;
            } catch (InvocationTargetException e) {
                Given.wrong++;
                System.out.println("seed " + seed + ": " + m.getName() + Arrays.toString(args) + " threw "
                    + e.getCause());
            }
        }
    }

    private static String dear() {
        String[] part = {"0 to 9", "0 to 4 or 10 to 14", "0 or 1 or 5 or 6 or 10 or 11 or 15 or 16",
            "1 or 3 or 5 or 7 or 9 or 11 or 13 or 15 or 17 or 19", "2 to 3 or 7 to 8 or 12 to 13 or 17 to 18"};
        StringBuilder s = new StringBuilder("kind a;con p num num;con q num num;con r num num;con s num num;"
            + "con t num num;kind b;con u;con v;con w;con x;con y;con z;match a b;");
        for (int i = 0; i < 10; i++) {
            String fields = i < 5 ? part[i] + ",any" : "any," + part[i - 5];
            s.append("arm p(" + fields + ") or q(" + fields + "),any when " + i % 8 + ";");
        }
        return s + "arm any,u or v or w;arm any,u or x;budget 999;";
    }

    private static void room() {
        com.sun.management.ThreadMXBean threads = (com.sun.management.ThreadMXBean) ManagementFactory.getThreadMXBean();
        long thread = Thread.currentThread().getId();
        new MatchTrees();
        long ahead = threads.getThreadAllocatedBytes(thread);
        MatchTrees x = new MatchTrees();
        long made = threads.getThreadAllocatedBytes(thread) - ahead;
        Given.due("bytes of an object are few: " + made, made < 4000000, true);
        Given.put(x, dear());
        Given.due("dear match", x.match() > 0, true);
        ahead = threads.getThreadAllocatedBytes(thread);
        for (int i = 0; i < 100; i++) {
            x.choose(i % 4);
            x.best(1);
            x.tells(0);
            x.chance(40);
            x.scopes(i % 4, 3, 5);
        }
        long taken = threads.getThreadAllocatedBytes(thread) - ahead;
        Given.due("bytes of dear calls are few: " + taken, taken < 200000, true);
    }

    /** An object is used for at most 512 calls: the last of them answers as the first does. */
    private static void manyCalls() {
        MatchTrees x = new MatchTrees();
        for (int i = 1; i <= 511; i++) {
            x.run(-1);
        }
        Given.due("refused by 511 calls", x.status(2), 511);
        MatchTrees y = new MatchTrees();
        Given.put(y, dear());
        y.match();
        int best = y.best(1);
        int shut = y.scopes(3, 3, 998);
        for (int i = 0; i < 440; i++) {
            Given.due("best, call " + i, y.best(1), best);
        }
        Given.due("scopes, the last call", y.scopes(3, 3, 998), shut);
        MatchTrees z = Given.matched("match num;");
        int untaken = 0;
        for (int i = 0; i < 490; i++) {
            untaken += z.chance(40);
        }
        Given.due("all are taken by none", untaken, 490 * 40);
        Given.due("told", z.has(7), 40);
        Given.due("acts", z.has(9), 20);
    }

    public static void main(String[] args) throws ReflectiveOperationException {
        for (long seed = 1; seed <= 400; seed++) {
            wild(seed);
        }
        room();
        manyCalls();
        Given.finish();
    }
}
