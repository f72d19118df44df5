/** Promises 20 to 36: changes, guards found out, acts, images, refusals. */
public final class ActTest {
    private static final int NONE = MatchTrees.NONE;
    private static final int LOW = Integer.MIN_VALUE;
    private static final int HIGH = Integer.MAX_VALUE;
    private static final String GUARDED = "match num;arm 0 to 9 when 1;arm 5 to 14 when 2;arm any;";

    private static void see(MatchTrees x, int due, int... bytes) {
        byte[] all = new byte[bytes.length];
        for (int i = 0; i < bytes.length; i++) {
            all[i] = (byte) bytes[i];
        }
        x.end(0);
        Given.put(x, all);
        Given.due("see of " + bytes.length, x.see(), due);
        Given.due("tape gone", x.end(1), false);
    }

    private static void on(MatchTrees x, boolean due, int... bytes) {
        byte[] all = new byte[bytes.length + 1];
        int check = 199;
        for (int i = 0; i < bytes.length; i++) {
            all[i] = (byte) bytes[i];
            check = (5 * check + bytes[i]) % 251;
        }
        all[bytes.length] = (byte) check;
        x.end(0);
        Given.put(x, all);
        Given.due("on of " + bytes.length, x.on(), due);
        Given.due("tape gone", x.end(1), false);
    }

    private static void safe(String text, int a, int b, int due) {
        MatchTrees x = Given.matched(text);
        Given.due("safe " + a + " " + b + " of " + text, x.safe(a, b), due);
        Given.due("safe " + b + " " + a + " of " + text, x.safe(b, a), due);
        x.turn(0);
        x.turn(1);
        Given.due("with guards off, " + text, x.safe(a, b), due);
        Given.due("order stays", x.arm(a, 0), a);
    }

    private static void promise20() {
        safe("match num;arm 1;arm 2;arm 3;", 0, 2, 1);
        safe("match num;arm 1;arm any;arm 3;", 0, 2, 0);
        safe("match num;arm 0 to 4;arm 3 to 9;", 0, 1, 0);
        safe("match num;arm 0 to 4;arm 3 to 9;", 1, 1, 1);
        safe("match num;arm 3 when 0;arm 3 when 1;", 0, 1, 0);
        safe("match num;arm 3 when 0;arm 3 when 0;", 0, 1, 0);
        safe("match num;arm any when 0;arm 3 when 0;arm 3 to 4 when 0;", 1, 2, 1);
        safe("match num;arm any;arm 3;arm 3 to 4 when 1;", 1, 2, 1);
        safe("match num;arm 3;arm 3 to 4 when 1;arm 4;", 1, 2, 0);
        safe("match num;arm 3 when 0;arm any when 1;arm 3 when 1;", 0, 2, 0);
        safe("match num num;arm 3,any;arm any,3;", 0, 1, 0);
        safe("match num num;arm 3,4 to 9;arm any,3;", 0, 1, 1);
        MatchTrees x = Given.matched("match num;arm 3;arm any when 0;arm 4;");
        Given.due("safe 1 2", x.safe(1, 2), 0);
        x.drop(2);
        Given.due("safe 0 1", x.safe(0, 1), 0);
        int[][] none = {{0, 2}, {2, 0}, {-1, 0}, {0, -1}, {2, 2}, {HIGH, LOW}};
        for (int[] a : none) {
            Given.due("safe " + a[0] + " " + a[1], x.safe(a[0], a[1]), NONE);
        }
        Given.due("without a match", new MatchTrees().safe(0, 0), NONE);
    }

    private static void promise21() {
        // Column 0 first is 400 + 400 tests; column 1 first 400 + 20.
        MatchTrees x = Given.matched("match num num;arm 2,2;arm any,1;");
        Given.due("tests", x.tree(0, 3), 800);
        Given.due("best", x.best(0), 0);
        Given.due("tests by it", x.best(1), 420);
        Given.due("nothing changed", x.arm(0, 0), 0);
        x.swap(0, 1);
        Given.due("none better", x.best(0), NONE);
        Given.due("as it is", x.best(1), 420);
        x.swap(0, 1);
        x.choose(1);
        Given.due("by the rule none", x.best(0), NONE);
        Given.due("by the rule", x.best(1), 420);
        MatchTrees unsafe = Given.matched("match num num;arm 2,1 to 2;arm any,1;");
        Given.due("fewer but not safe", unsafe.best(0), NONE);
        MatchTrees like = Given.matched("match num num;arm 2,2;arm any,1;arm 3,5;arm any,4;");
        Given.due("the first of like ones", like.best(0), 0);
        MatchTrees door = Given.matched("match num num;arm any,any when 0;arm 2,2;arm any,1;");
        Given.due("guards as they are", door.best(1), 0);
        Given.due("guards as they are", door.best(0), NONE);
        door.turn(0);
        Given.due("guards as they are", door.best(1), 420);
        Given.due("guards as they are", door.best(0), 1);
        Given.due("for 2", x.best(2), NONE);
        Given.due("for -1", x.best(-1), NONE);
        Given.due("without a match", new MatchTrees().best(1), NONE);
    }

    private static void promise22() {
        MatchTrees x = Given.matched("match num num num;arm any,any,any when 0;");
        see(x, 1, 0x1f, 0x3f, 0);
        Given.due("seen", x.has(8), 1);
        see(x, NONE, 0x1f, 0x40, 0);
        see(x, NONE, 0, 0, 1);
        see(x, NONE, 0, 0, 254);
        see(x, NONE, 0, 0);
        see(x, NONE);
        see(x, NONE, 0, 0, 0, 0);
        see(x, NONE, new int[51]);
        see(x, NONE, 0, 0, 0, 0xff, 0xff, 0);
        Given.due("seen stays", x.has(8), 1);
        Given.due("refused", x.status(5), 8);
        see(x, 16, new int[48]);
        see(x, 2, 0, 1, 255, 1, 0, 0);
        Given.due("seen", x.has(8), 2);
        x.drop(0);
        see(x, NONE, 0, 0, 0);
        see(x, 1, 0, 0, 255);
        see(new MatchTrees(), NONE, 0, 0, 255);
    }

    private static void sets(String name, MatchTrees x, int... due) {
        Given.due(name + ": sets", x.sets(NONE), due.length);
        for (int k = 0; k < due.length; k++) {
            Given.due(name + ": set " + k, x.sets(k), due[k]);
        }
        Given.due(name + ": set behind", x.sets(due.length), NONE);
    }

    private static void promise23() {
        MatchTrees x = Given.matched(GUARDED);
        Given.due("all", x.sets(NONE), 256);
        Given.due("all 255", x.sets(255), 255);
        Given.due("all 256", x.sets(256), NONE);
        Given.due("-2", x.sets(-2), NONE);
        Given.due("low", x.sets(LOW), NONE);
        Given.due("high", x.sets(HIGH), NONE);
        see(x, 1, 0, 5, 1);
        Given.due("guard 1 off, 2 on", x.sets(NONE), 64);
        int[] due = {4, 5, 12, 13, 20};
        for (int k = 0; k < due.length; k++) {
            Given.due("set " + k, x.sets(k), due[k]);
        }
        Given.due("set 63", x.sets(63), 253);
        x.turn(1);
        Given.due("whatever is on", x.sets(NONE), 64);
        see(x, NONE, 0, 5, 9);
        Given.due("a refused one stays out", x.sets(NONE), 64);
        see(x, 1, 0, 15, 255);
        sets("never", x);
        see(x, 2, 0, 0, 2, 0, 10, 2);
        Given.due("both off", x.sets(NONE), 64);
        Given.due("both off", x.sets(63), 249);
        see(x, 1, 0, 5, 1);
        // The arm that was seen is the same one, wherever it is.
        x.swap(0, 1);
        Given.due("moved ahead", x.sets(NONE), 128);
        x.drop(0);
        sets("the seen one taken out", x);
        Given.put(x, GUARDED);
        x.match();
        Given.due("another match", x.sets(NONE), 256);
        Given.due("without a match", new MatchTrees().sets(NONE), NONE);
    }

    private static void promise24() {
        MatchTrees x = Given.matched(GUARDED);
        Given.due("telling", x.tells(0), 0);
        Given.due("left", x.tells(1), 128);
        see(x, 1, 0, 0, 0);
        Given.due("telling", x.tells(0), 10);
        Given.due("left", x.tells(1), 64);
        see(x, 1, 0, 15, 255);
        Given.due("none left", x.tells(0), NONE);
        Given.due("none left", x.tells(1), NONE);
        Given.due("for 2", x.tells(2), NONE);
        Given.due("for -1", x.tells(-1), NONE);
        MatchTrees last = Given.matched("match num num num;arm 2,9,19 when 0;");
        Given.due("row 999", last.tells(0), 999);
        Given.due("left", last.tells(1), 128);
        MatchTrees past = Given.matched("match num num num;arm 2,10,0 when 0;");
        Given.due("row 1000 is past it", past.tells(0), 0);
        Given.due("left", past.tells(1), 256);
        MatchTrees three = Given.matched("match num;arm 1 when 0;arm 2 when 3;arm 2 when 4;");
        Given.due("three ways", three.tells(0), 1);
        MatchTrees many = Given.matched("match num;arm 1 when 0;arm 1 when 0;arm 2 when 3;arm 2;arm 3 when 5;arm 3 when 6;"
            + "arm any when 7;");
        Given.due("told apart by arms", many.tells(1), 128);
        MatchTrees twelve = Given.matched("match num;arm 5 when 0;" + "arm 19;".repeat(10) + "arm any;");
        Given.due("by the last of twelve arms", twelve.tells(0), 5);
        Given.due("left", twelve.tells(1), 128);
        Given.due("without a match", new MatchTrees().tells(0), NONE);
    }

    private static void kept(MatchTrees x, int k, int row, int arm, int asked) {
        Given.due("kept row " + k, x.kept(k, 0), row);
        Given.due("kept arm " + k, x.kept(k, 1), arm);
        Given.due("kept asked " + k, x.kept(k, 2), asked);
    }

    private static void promises25And33() {
        MatchTrees x = Given.matched("match num num;arm 1,any when 0;arm 1,3;budget 1;");
        Given.due("run", x.run(25), 0);
        Given.due("run", x.run(0), NONE);
        x.turn(0);
        Given.due("run", x.run(23), 1);
        Given.due("run", x.run(25), NONE);
        x.swap(0, 1);
        Given.due("run", x.run(23), 0);
        x.choose(1);
        Given.due("run", x.run(399), NONE);
        x.turn(0);
        Given.due("run", x.run(20), 1);
        Given.due("told", x.has(7), 7);
        kept(x, 0, 25, 0, 1);
        kept(x, 1, 0, NONE, 1);
        kept(x, 2, 23, 1, 2);
        kept(x, 3, 25, NONE, 2);
        kept(x, 4, 23, 1, 2);
        kept(x, 5, 399, NONE, 1);
        kept(x, 6, 20, 0, 2);
        for (int k : new int[] {-1, 7, LOW, HIGH}) {
            kept(x, k, NONE, NONE, NONE);
        }
        for (int what : new int[] {-1, 3, LOW, HIGH}) {
            Given.due("kept, " + what, x.kept(0, what), NONE);
        }
        for (int row : new int[] {-1, 400, LOW, HIGH}) {
            Given.due("run of " + row, x.run(row), NONE);
        }
        Given.due("refused", x.status(2), 4);
        Given.due("kept none of these", x.has(7), 7);
        Given.due("without a match", new MatchTrees().run(0), NONE);
    }

    private static void promise26() {
        MatchTrees x = Given.matched("match num;arm 18;");
        Given.due("chance", x.chance(1), 0);
        Given.due("seed", x.has(10), 1103527590);
        Given.due("chance", x.chance(2), 2);
        kept(x, 0, 18, 0, 1);
        kept(x, 1, 19, NONE, 1);
        kept(x, 2, 6, NONE, 1);
        Given.due("seed", x.has(10), 662824084);
        Given.due("acts", x.has(9), 2);
        for (int n : new int[] {0, 41, -1, LOW, HIGH}) {
            Given.due("chance " + n, x.chance(n), NONE);
        }
        Given.due("refused", x.status(2), 5);
        Given.due("seed stays", x.has(10), 662824084);
        Given.due("chance 40", x.chance(40) >= 0, true);
        Given.due("told", x.has(7), 40);
        Given.due("acts", x.has(9), 3);
        x.undo();
        Given.due("told", x.has(7), 3);
        MatchTrees none = new MatchTrees();
        Given.due("without a match", none.chance(1), NONE);
        Given.due("seed stays", none.has(10), 1);
        Given.due("refused", none.status(2), 1);
    }

    private static void promises27To30() {
        MatchTrees x = Given.matched("match num;arm 1;arm 2;arm 3;arm 4;rule 2;");
        Given.due("swap", x.swap(3, 1), true);
        order(x, 0, 3, 2, 1);
        int[][] none = {{1, 1}, {0, 4}, {4, 0}, {-1, 0}, {0, -1}, {HIGH, LOW}};
        for (int[] a : none) {
            Given.due("swap " + a[0] + " " + a[1], x.swap(a[0], a[1]), false);
        }
        Given.due("refused", x.status(3), 6);
        Given.due("drop", x.drop(1), true);
        order(x, 0, 2, 1);
        for (int place : new int[] {-1, 3, LOW, HIGH}) {
            Given.due("drop " + place, x.drop(place), false);
        }
        Given.due("refused", x.status(3), 10);
        Given.due("turn off", x.turn(7), 0);
        Given.due("turn on", x.turn(7), 1);
        Given.due("turn off", x.turn(0), 0);
        Given.due("guards", x.has(5), 254);
        for (int guard : new int[] {-1, 8, LOW, HIGH}) {
            Given.due("turn " + guard, x.turn(guard), NONE);
        }
        Given.due("refused", x.status(3), 14);
        Given.due("choose", x.choose(0), true);
        Given.due("choose", x.choose(3), true);
        Given.due("rule", x.has(6), 3);
        for (int rule : new int[] {3, -1, 4, LOW, HIGH}) {
            Given.due("choose " + rule, x.choose(rule), false);
        }
        Given.due("refused", x.status(3), 19);
        Given.due("acts", x.has(9), 7);
        x.drop(0);
        x.drop(0);
        x.drop(0);
        Given.due("no arms", x.has(4), 0);
        Given.due("drop none", x.drop(0), false);
        Given.due("missing", x.missing(NONE), 20);
        MatchTrees none2 = new MatchTrees();
        Given.due("swap without a match", none2.swap(0, 1), false);
        Given.due("drop without a match", none2.drop(0), false);
        Given.due("turn without a match", none2.turn(0), NONE);
        Given.due("choose without a match", none2.choose(1), false);
        Given.due("refused", none2.status(3), 4);
    }

    private static void order(MatchTrees x, int... due) {
        Given.due("arms", x.has(4), due.length);
        for (int place = 0; place < due.length; place++) {
            Given.due("arm at " + place, x.arm(place, 0), due[place]);
        }
        Given.due("arm behind", x.arm(due.length, 0), NONE);
    }

    private static void promise31() {
        MatchTrees x = Given.matched("match num;arm 1;arm 2;arm 3;");
        Given.due("nothing to undo", x.undo(), false);
        Given.due("refused", x.status(4), 1);
        x.run(4);
        x.swap(0, 2);
        x.drop(1);
        x.turn(5);
        x.choose(2);
        x.chance(7);
        see(x, 1, 0, 0, 255);
        int seed = x.has(10);
        Given.due("acts", x.has(9), 6);
        Given.due("undo chance", x.undo(), true);
        Given.due("told", x.has(7), 1);
        Given.due("the seed stays", x.has(10), seed);
        Given.due("undo choose", x.undo(), true);
        Given.due("rule", x.has(6), 0);
        Given.due("undo turn", x.undo(), true);
        Given.due("guards", x.has(5), 255);
        order(x, 2, 0);
        Given.due("undo drop", x.undo(), true);
        order(x, 2, 1, 0);
        Given.due("undo swap", x.undo(), true);
        order(x, 0, 1, 2);
        Given.due("undo run", x.undo(), true);
        Given.due("told", x.has(7), 0);
        Given.due("nothing to undo", x.undo(), false);
        Given.due("refused", x.status(4), 2);
        Given.due("seen stays", x.has(8), 1);
        Given.due("refused ones are no acts", x.swap(0, 0), false);
        Given.due("nothing to undo", x.undo(), false);
        Given.due("without a match", new MatchTrees().undo(), false);
        twentyActs();
    }

    /** The last 20 acts of 40 rows undone: the 40 that were told ahead of them are told again. */
    private static void twentyActs() {
        MatchTrees x = Given.matched("match num num;");
        for (int row = 0; row < 45; row++) {
            x.run(row);
        }
        Given.due("told", x.has(7), 40);
        kept(x, 0, 5, NONE, 0);
        for (int i = 0; i < 25; i++) {
            x.chance(40);
        }
        int last = x.kept(39, 0);
        Given.due("acts", x.has(9), 20);
        for (int i = 0; i < 6; i++) {
            x.undo();
        }
        for (int i = 0; i < 6; i++) {
            x.run(100 + i);
        }
        kept(x, 39, 105, NONE, 0);
        for (int i = 0; i < 20; i++) {
            Given.due("undo " + i, x.undo(), true);
        }
        Given.due("undo 21", x.undo(), false);
        Given.due("told", x.has(7), 40);
        MatchTrees same = Given.matched("match num num;");
        for (int i = 0; i < 5; i++) {
            same.chance(40);
        }
        for (int k = 0; k < 40; k++) {
            kept(x, k, same.kept(k, 0), NONE, 0);
        }
        Given.due("a row", last >= 0 && last < 400, true);
        MatchTrees runs = Given.matched("match num num;");
        for (int row = 0; row < 45; row++) {
            runs.run(row);
        }
        for (int i = 0; i < 20; i++) {
            runs.chance(40);
        }
        for (int i = 0; i < 20; i++) {
            runs.undo();
        }
        for (int k = 0; k < 40; k++) {
            kept(runs, k, 5 + k, NONE, 0);
        }
    }

    private static void promise32() {
        MatchTrees x = new MatchTrees();
        Given.due("seed", x.seed(HIGH), true);
        Given.due("seed", x.has(10), HIGH);
        Given.due("seed -1", x.seed(-1), false);
        Given.due("seed low", x.seed(LOW), false);
        Given.due("refused", x.status(5), 2);
        Given.due("seed stays", x.has(10), HIGH);
        Given.due("seed 0", x.seed(0), true);
        Given.put(x, "match num;");
        x.match();
        x.chance(1);
        Given.due("from 0 on", x.has(10), 12345);
        kept(x, 0, 12345 / 64 % 20, NONE, 0);
        x.seed(HIGH);
        x.chance(1);
        Given.due("wrapped", x.has(10), (int) ((1103515245L * HIGH + 12345) % (1L << 31)));
    }

    private static void promise34() {
        MatchTrees x = new MatchTrees();
        Given.due("image ahead of a match", x.image(), 4);
        bytes(x, 0, 0, 0, 26);
        Given.put(x, "match num;arm 1;arm 2;arm 3 when 0;rule 3;");
        x.match();
        x.swap(0, 2);
        x.turn(0);
        Given.due("image", x.image(), 7);
        int[] due = {3, 2, 1, 0, 254, 3, 0};
        int check = 199;
        for (int i = 0; i < 6; i++) {
            check = (5 * check + due[i]) % 251;
        }
        due[6] = check;
        bytes(x, due);
        x.drop(1);
        Given.due("image", x.image(), 6);
        Given.due("behind", x.octet(6), NONE);
    }

    private static void bytes(MatchTrees x, int... due) {
        for (int k = 0; k < due.length; k++) {
            Given.due("octet " + k, x.octet(k), due[k]);
        }
        Given.due("octet behind", x.octet(due.length), NONE);
    }

    private static void promise35() {
        MatchTrees x = Given.matched("match num;arm 1;arm 2;arm 3 when 0;rule 3;");
        x.run(0);
        x.swap(0, 1);
        see(x, 1, 0, 0, 255);
        x.seed(9);
        on(x, false, 1, 3, 255, 0);
        on(x, false, 2, 1, 1, 255, 0);
        on(x, false, 2, 1, 0, 255, 4);
        on(x, false, 2, 1, 255, 0);
        on(x, false, 3, 1, 0, 255, 0);
        on(x, false, 4, 0, 1, 2, 3, 255, 0);
        on(x, false, 0, 0, 255, 0);
        on(x, false, 255, 0, 255, 0);
        on(x, false, 0, 255);
        on(x, false);
        x.end(0);
        Given.due("an empty tape", x.on(), false);
        Given.put(x, "\0\0\0\33");
        Given.due("a wrong last byte", x.on(), false);
        Given.due("refused", x.status(5), 12);
        Given.due("all stays", x.has(9), 2);
        Given.due("all stays", x.has(7), 1);
        order(x, 1, 0, 2);
        on(x, true, 2, 2, 0, 6, 1);
        order(x, 2, 0);
        Given.due("guards", x.has(5), 6);
        Given.due("rule", x.has(6), 1);
        Given.due("kept", x.has(7), 0);
        Given.due("acts", x.has(9), 0);
        Given.due("undo", x.undo(), false);
        Given.due("seen stays", x.has(8), 1);
        Given.due("seed stays", x.has(10), 9);
        on(x, true, 0, 0, 0);
        order(x);
        on(x, true, 3, 0, 1, 2, 255, 3);
        order(x, 0, 1, 2);
        on(new MatchTrees(), false, 0, 0, 0);
        x.swap(0, 2);
        x.turn(6);
        Given.put(x, Given.octets(x, x.image()).getBytes(java.nio.charset.StandardCharsets.ISO_8859_1));
        x.drop(1);
        Given.due("back to the image", x.on(), true);
        order(x, 2, 1, 0);
        Given.due("guards", x.has(5), 191);
    }

    private static void promise36() {
        MatchTrees x = new MatchTrees();
        for (int what = 0; what < 6; what++) {
            Given.due("new status " + what, x.status(what), 0);
        }
        x.end(-1);
        x.match();
        x.row();
        x.run(0);
        x.chance(1);
        x.swap(0, 1);
        x.drop(0);
        x.turn(0);
        x.choose(1);
        x.undo();
        x.seed(-1);
        x.see();
        x.on();
        int[] due = {1, 2, 2, 4, 1, 3};
        for (int what = 0; what < 6; what++) {
            Given.due("status " + what, x.status(what), due[what]);
        }
        Given.put(x, "match num;");
        x.match();
        for (int what = 0; what < 6; what++) {
            Given.due("status stays " + what, x.status(what), due[what]);
        }
        for (int what : new int[] {-1, 6, LOW, HIGH}) {
            Given.due("status " + what, x.status(what), NONE);
        }
    }

    public static void main(String[] args) {
        promise20();
        promise21();
        promise22();
        promise23();
        promise24();
        promises25And33();
        promise26();
        promises27To30();
        promise31();
        promise32();
        promise34();
        promise35();
        promise36();
        Given.finish();
    }
}
