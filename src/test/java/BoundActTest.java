import java.util.Arrays;

/** Terms II (KEPT, ACTS, DRAW) and III, promises 1 to 3 and 20 to 36: one test for each sentence that names a bound. */
public final class BoundActTest {
    private static final int NONE = Given.NONE;
    private static final int LOW = Given.LOW;
    private static final int HIGH = Given.HIGH;
    private static final String GUARDED = "match num;arm 0 to 9 when 1;arm 5 to 14 when 2;arm any;";

    private static void feed(MatchTrees x, int times) {
        for (int i = 0; i < times; i++) {
            x.feed(0x20202020, 0x20202020, 0x20202020, 0x20202020, 0x20202020);
        }
    }

    private static void tape() {
        Given.test("a new object: No match, no arms; the seed is 1", () -> {
            MatchTrees x = new MatchTrees();
            for (int what = 0; what < 10; what++) {
                Given.due("has " + what, x.has(what), 0);
            }
            Given.due("seed", x.has(10), 1);
            Given.due("arm", x.arm(0, 0), NONE);
            Given.due("no match", x.values(NONE), NONE);
            for (int what = 0; what < 6; what++) {
                Given.due("status " + what, x.status(what), 0);
            }
        });
        Given.test("feed: Twenty bytes, of each number the highest first: how many there are", () -> {
            MatchTrees x = new MatchTrees();
            Given.due("20", x.feed(0x6d617463, 0x68206e75, 0x6d3b6172, 0x6d203320, 0x746f2037), 20);
            Given.due("40", x.feed(0x3b202020, 0x20202020, 0x20202020, 0x20202020, 0x20202020), 40);
            Given.due("match", x.match(), 2);
            Given.due("3 to 7", x.arm(0, 3), 5);
            x.feed(0x0003ff00, 0x0700ff00, 0, 0, 0);
            x.end(3);
            Given.due("a row that is taken by none", x.see(), 1);
            x.feed(0x0003ff00, 0x070000ff, 0, 0, 0);
            x.end(6);
            Given.due("two rows", x.see(), 2);
            x.feed(0xff030000, 0, 0, 0, 0);
            x.end(3);
            Given.due("a row above 255", x.see(), NONE);
        });
        Given.test("feed: NONE, refused (0), if there would be more than 1600", () -> {
            MatchTrees x = new MatchTrees();
            feed(x, 79);
            Given.due("1600", x.feed(1, 2, 3, 4, 5), 1600);
            Given.due("more", x.feed(1, 2, 3, 4, 5), NONE);
            Given.due("refused", x.status(0), 1);
            Given.due("1600 are there", x.end(1600), true);
            x.end(1581);
            Given.due("1601", x.feed(1, 2, 3, 4, 5), NONE);
            Given.due("1581 are there", x.end(1582), false);
            Given.due("1581 are there", x.end(1581), true);
            x.end(1580);
            Given.due("1600", x.feed(1, 2, 3, 4, 5), 1600);
        });
        Given.test("a text of 1600 bytes is read to its last one", () -> {
            MatchTrees x = new MatchTrees();
            String text = "match num;arm 1 to 2 when 3;";
            Given.put(x, text.substring(0, 10) + " ".repeat(1600 - text.length()) + text.substring(10));
            Given.due("match", x.match(), 2);
            Given.due("guard", x.arm(0, 1), 3);
            Given.bad(x, "match num;" + "\n".repeat(1589) + "#", 1, 1599);
            Given.bad(x, "match num" + "\n".repeat(1591), 1, 1600);
            Given.bad(x, "match" + "\n".repeat(1592) + "num", 1, 1600);
            Given.bad(x, "rule" + " ".repeat(1592) + "0003", 1, 1600);
            Given.bad(x, "kind" + " ".repeat(1589) + "abcdefg", 1, 1599);
        });
        Given.test("end: within a word, within a number", () -> {
            MatchTrees x = new MatchTrees();
            x.feed(0x6d617463, 0x68206e75, 0x6d6d6d6d, 0x6d6d6d6d, 0x6d6d6d6d);
            x.end(9);
            x.feed(0x3b72756c, 0x65203333, 0x33333333, 0x33333333, 0x33333333);
            x.end(16);
            x.feed(0x3b202020, 0x20202020, 0x20202020, 0x20202020, 0x20202020);
            Given.due("match num;rule 3;", x.match(), 2);
            x.feed(0x6d617463, 0x68206e75, 0x6d6d6d6d, 0x6d6d6d6d, 0x6d6d6d6d);
            x.end(9);
            Given.due("match num", x.match(), NONE);
            Given.due("ends too soon", x.fault(0), 1);
            Given.due("at its length", x.fault(1), 9);
            x.feed(0x3333330a, 0, 0, 0, 0);
            x.end(1);
            Given.due("row 3", x.row(), 3);
        });
        Given.test("end: The tape has its first n bytes alone; false, refused (0), if it has not so many, or n is"
            + " below 0", () -> {
            MatchTrees x = new MatchTrees();
            Given.due("0 of none", x.end(0), true);
            Given.due("1 of none", x.end(1), false);
            x.feed(0x6d617463, 0x68206e75, 0x6d3b2323, 0x23232323, 0x23232323);
            Given.due("21", x.end(21), false);
            Given.due("-1", x.end(-1), false);
            Given.due("low", x.end(LOW), false);
            Given.due("high", x.end(HIGH), false);
            Given.due("refused", x.status(0), 5);
            Given.due("20", x.end(20), true);
            Given.due("10", x.end(10), true);
            Given.due("11", x.end(11), false);
            Given.due("the first ones", x.match(), 1);
        });
    }

    private static void changes() {
        Given.test("safe: of one with itself: it is", () -> {
            MatchTrees x = Given.matched("match num;arm 1;arm any when 1;");
            Given.due("0 0", x.safe(0, 0), 1);
            Given.due("1 1", x.safe(1, 1), 1);
        });
        Given.test("safe: NONE when there are none such", () -> {
            MatchTrees x = Given.matched("match num;arm 1;arm 2;");
            int[][] none = {{0, 2}, {2, 0}, {2, 2}, {-1, 0}, {0, -1}, {-1, -1}, {LOW, 0}, {0, HIGH}, {HIGH, HIGH}};
            for (int[] a : none) {
                Given.due("safe " + a[0] + " " + a[1], x.safe(a[0], a[1]), NONE);
            }
            Given.due("the last ones", x.safe(0, 1), 1);
            Given.due("without a match", new MatchTrees().safe(0, 0), NONE);
            Given.due("no arms", Given.matched("match num;").safe(0, 0), NONE);
        });
        Given.test("SAFE, if each ROW is taken by the same ARM, whatever GUARDS are ON", () -> {
            MatchTrees x = Given.matched("match num;arm 0 to 9 when 0;arm 10 to 19 when 1;arm 10 to 14 when 2;arm 15;");
            String[] due = {"1100", "1100", "0011", "0011"};
            for (int times = 0; times < 2; times++) {
                for (int a = 0; a < 4; a++) {
                    for (int b = 0; b < 4; b++) {
                        Given.due("safe " + a + " " + b, x.safe(a, b), due[a].charAt(b) - '0');
                    }
                }
                x.turn(0);
                x.turn(1);
                x.turn(2);
            }
            Given.arms("nothing is changed", x, 0, 1, 2, 3);
        });
        Given.test("safe: ARMS behind one without a GUARD, or with a GUARD of one ahead, never take a ROW", () -> {
            Given.due("behind any", Given.matched("match num;arm any;arm 3;arm 3 to 4 when 1;").safe(1, 2), 1);
            MatchTrees one = Given.matched("match num;arm any when 0;arm 3 when 0;arm 3 to 4 when 0;");
            Given.due("one guard", one.safe(1, 2), 1);
            Given.due("the first may go to none", Given.matched("match num;arm any when 0;arm any;").safe(0, 1), 0);
            Given.due("the second has none", Given.matched("match num;arm any;arm any when 0;").safe(0, 1), 0);
            Given.due("of the first", Given.matched("match num;arm any when 0;arm 3 when 0;").safe(0, 1), 0);
        });
        Given.test("best: two neighbours, or none; of like ones none, then the first", () -> {
            MatchTrees x = Given.matched("match num num;arm 2,2;arm any,1;");
            Given.due("best", x.best(0), 0);
            Given.due("tests", x.best(1), 420);
            x.swap(0, 1);
            Given.due("none", x.best(0), NONE);
            Given.due("as it is without one", x.best(1), 420);
            MatchTrees like = Given.matched("match num num;arm any,1;arm any,2;");
            Given.due("like ones: none", like.best(0), NONE);
            MatchTrees first = Given.matched("match num num;arm 2,2;arm any,1;arm 3,any when 0;");
            Given.due("the first", first.best(0), 0);
        });
        Given.test("best: without ARMS, with one ARM", () -> {
            MatchTrees x = Given.matched("match num;arm 1;");
            Given.due("one", x.best(0), NONE);
            Given.due("one", x.best(1), 20);
            x.drop(0);
            Given.due("without", x.best(0), NONE);
            Given.due("without", x.best(1), 0);
        });
        Given.test("best: the last two of 12 ARMS are neighbours", () -> {
            MatchTrees x = Given.matched("match num num;" + "arm any,any when 0;".repeat(10) + "arm 2,2;arm any,1;");
            Given.due("ends at a door", x.best(0), NONE);
            Given.due("ends at a door", x.best(1), 0);
            x.turn(0);
            Given.due("the last two", x.best(0), 10);
            Given.due("tests", x.best(1), 420);
        });
        Given.test("best: NONE for others, or without a match", () -> {
            MatchTrees x = Given.matched("match num;arm 1;arm 2;");
            for (int what : new int[] {-1, 2, LOW, HIGH}) {
                Given.due("best " + what, x.best(what), NONE);
            }
            Given.due("without a match", new MatchTrees().best(0), NONE);
            Given.due("without a match", new MatchTrees().best(1), NONE);
        });
    }

    private static void see(MatchTrees x, int due, int... bytes) {
        Given.put(x, bytes);
        Given.due("see", x.see(), due);
        Given.due("the tape goes", x.end(1), false);
    }

    private static void seen() {
        Given.test("see: 1 to 16 rows of three bytes: how many rows", () -> {
            MatchTrees x = Given.matched("match num;arm 1;");
            int[] bytes = new int[48];
            for (int rows = 1; rows <= 16; rows++) {
                see(x, rows, Arrays.copyOf(bytes, 3 * rows));
                Given.due("seen", x.has(8), rows);
            }
            Given.due("not refused", x.status(5), 0);
        });
        Given.test("see: NONE, refused (5), when it is none such", () -> {
            MatchTrees x = Given.matched("match num;arm 1;");
            see(x, 1, 0, 3, 255);
            for (int length : new int[] {0, 1, 2, 4, 5, 46, 47, 49, 50, 51, 96}) {
                see(x, NONE, new int[length]);
            }
            Given.due("refused", x.status(5), 11);
            Given.due("seen stays", x.has(8), 1);
        });
        Given.test("see: ROW, two, the higher first", () -> {
            MatchTrees x = Given.matched("match num num num;arm any,any,any when 0;");
            see(x, 1, 0x1f, 0x3f, 0);
            see(x, NONE, 0x1f, 0x40, 0);
            see(x, NONE, 0x40, 0x1f, 0);
            see(x, NONE, 0xff, 0xff, 0);
            see(x, NONE, 0, 0, 0, 0x1f, 0x40, 0);
            Given.due("refused", x.status(5), 4);
        });
        Given.test("see: ARM by its place (255: none)", () -> {
            MatchTrees x = Given.matched("match num;arm 1;arm 2 when 0;");
            see(x, 1, 0, 2, 1);
            see(x, NONE, 0, 2, 2);
            see(x, NONE, 0, 2, 254);
            see(x, NONE, 0, 2, 1, 0, 2, 2);
            see(x, 1, 0, 3, 255);
            x.drop(0);
            see(x, NONE, 0, 2, 1);
            see(x, 1, 0, 2, 0);
            Given.due("guard 0 on", x.sets(NONE), 128);
            Given.due("guard 0 on", x.sets(0), 1);
        });
        Given.test("see: NONE, refused (5), without a match; the tape goes", () -> {
            MatchTrees x = new MatchTrees();
            see(x, NONE, 0, 0, 255);
            Given.due("refused", x.status(5), 1);
        });
        Given.test("GUARDSETS (0 .. 255, bit k for GUARD k); all, if there was no see()", () -> {
            MatchTrees x = Given.matched("match num;");
            Given.due("how many", x.sets(NONE), 256);
            for (int k = 0; k < 256; k++) {
                Given.due("set " + k, x.sets(k), k);
            }
            for (int k : new int[] {256, -2, LOW, HIGH}) {
                Given.due("set " + k, x.sets(k), NONE);
            }
            Given.due("without a match", new MatchTrees().sets(NONE), NONE);
            Given.due("without a match", new MatchTrees().sets(0), NONE);
        });
        Given.test("GUARDSETS are those that being ON each ROW is taken so", () -> {
            for (int guard = 0; guard < 8; guard++) {
                MatchTrees x = Given.matched("match num;arm 3 when " + guard + ";arm 4;");
                see(x, 1, 0, 3, 0);
                Given.due("on", x.sets(NONE), 128);
                Given.due("on, the first", x.sets(0), 1 << guard);
                Given.due("on, the last", x.sets(127), 255);
                see(x, 2, 0, 4, 1, 0, 3, 255);
                Given.due("off", x.sets(NONE), 128);
                Given.due("off, the first", x.sets(0), 0);
                Given.due("off, the last", x.sets(127), 255 - (1 << guard));
                see(x, 2, 0, 3, 0, 0, 3, 255);
                Given.due("both", x.sets(NONE), 0);
                Given.due("both", x.sets(0), NONE);
            }
        });
        Given.test("the 16th row SEEN counts", () -> {
            MatchTrees x = Given.matched("match num;arm 3 when 0;");
            int[] bytes = new int[48];
            for (int i = 0; i < 16; i++) {
                bytes[3 * i + 2] = 255;
            }
            see(x, 16, bytes);
            Given.due("all", x.sets(NONE), 256);
            bytes[46] = 3;
            see(x, 16, bytes);
            Given.due("off", x.sets(NONE), 128);
        });
        Given.test("sets: of the latest see() of this MATCH that was not refused", () -> {
            MatchTrees x = Given.matched(GUARDED);
            see(x, 1, 0, 0, 0);
            see(x, 1, 0, 12, 1);
            Given.due("the latest alone", x.sets(0), 4);
            see(x, NONE, 0, 12, 3);
            Given.due("a refused one does not count", x.sets(NONE), 128);
            Given.put(x, "match num");
            x.match();
            Given.due("a refused match takes nothing away", x.sets(NONE), 128);
            Given.put(x, GUARDED);
            x.match();
            Given.due("a new match does", x.sets(NONE), 256);
        });
        Given.test("sets: whatever GUARDS are ON", () -> {
            MatchTrees x = Given.matched(GUARDED);
            see(x, 1, 0, 5, 1);
            for (int guard = 0; guard < 8; guard++) {
                x.turn(guard);
                Given.due("how many", x.sets(NONE), 64);
            }
        });
    }

    private static void telling() {
        Given.test("TELLING is the ROW (0 .. 999)", () -> {
            MatchTrees last = Given.matched("match num num num;arm 2,9,19 when 0;");
            Given.due("row 999", last.tells(0), 999);
            Given.due("left", last.tells(1), 128);
            MatchTrees past = Given.matched("match num num num;arm 2,10,0 when 0;");
            Given.due("row 1000 is past it", past.tells(0), 0);
            Given.due("left", past.tells(1), 256);
        });
        Given.test("the most GUARDSETS left are fewest; by whose ARM, whichever takes it, or none", () -> {
            MatchTrees x = Given.matched("match num;arm 1 when 0;arm 2 when 3;arm 2 when 4;arm 3 when 5;"
                + "arm 3 when 6;arm 3;");
            // Row 1: 128, 128. Row 2: 128, 64, 64. Row 3: 128, 64, 64.
            Given.due("row", x.tells(0), 1);
            Given.due("left", x.tells(1), 128);
            see(x, 2, 0, 1, 0, 0, 2, 2);
            // Left: guard 0 on, 3 off, 4 on. Row 3 alone tells more.
            Given.due("row", x.tells(0), 3);
            Given.due("left", x.tells(1), 16);
        });
        Given.test("TELLING: of like ones the first", () -> {
            MatchTrees x = Given.matched("match num;arm 4 when 0;arm 7 when 1;");
            Given.due("row", x.tells(0), 4);
            MatchTrees none = Given.matched("match num;arm 1;");
            Given.due("none tells", none.tells(0), 0);
            Given.due("all are left", none.tells(1), 256);
        });
        Given.test("tells: NONE without any left, without a match, or for others", () -> {
            MatchTrees x = Given.matched("match num;arm 1 when 0;");
            for (int what : new int[] {-1, 2, LOW, HIGH}) {
                Given.due("tells " + what, x.tells(what), NONE);
            }
            see(x, 1, 0, 2, 0);
            Given.due("without any left", x.tells(0), NONE);
            Given.due("without any left", x.tells(1), NONE);
            Given.due("without a match", new MatchTrees().tells(0), NONE);
            Given.due("without a match", new MatchTrees().tells(1), NONE);
        });
        Given.test("TELLING with 12 ARMS, by the last of them", () -> {
            MatchTrees x = Given.matched("match num;" + "arm 18;".repeat(11) + "arm 5 when 7;");
            Given.due("row", x.tells(0), 5);
            Given.due("left", x.tells(1), 128);
            MatchTrees y = Given.matched("match num;arm 5 when 0;" + "arm 18;".repeat(10) + "arm any;");
            Given.due("row", y.tells(0), 5);
            Given.due("left", y.tells(1), 128);
        });
    }

    private static void kept(MatchTrees x, int k, int row, int arm, int asked) {
        Given.due("kept row " + k, x.kept(k, 0), row);
        Given.due("kept arm " + k, x.kept(k, 1), arm);
        Given.due("kept asked " + k, x.kept(k, 2), asked);
    }

    private static void runs() {
        Given.test("run: the place of the ARM that TAKES it (NONE: none does); KEPT is each ROW that is run", () -> {
            MatchTrees x = Given.matched("match num num;arm 1,any when 0;arm 1,3;budget 1;");
            x.swap(0, 1);
            Given.due("by the second", x.run(20), 1);
            Given.due("by none", x.run(0), NONE);
            Given.due("not refused", x.status(2), 0);
            kept(x, 0, 20, 0, 2);
            kept(x, 1, 0, NONE, 1);
        });
        Given.test("run: NONE, refused (2), when there is none such", () -> {
            MatchTrees x = Given.matched("match num;arm any;");
            for (int row : new int[] {-1, 20, LOW, HIGH}) {
                Given.due("run " + row, x.run(row), NONE);
            }
            Given.due("refused", x.status(2), 4);
            Given.due("none is kept", x.has(7), 0);
            Given.due("no act", x.has(9), 0);
            Given.due("the last", x.run(19), 0);
            MatchTrees none = new MatchTrees();
            Given.due("without a match", none.run(0), NONE);
            Given.due("refused", none.status(2), 1);
        });
        Given.test("KEPT: the last 40 are told, the k-th from the oldest on", () -> {
            MatchTrees x = Given.matched("match num num;arm 0,any;");
            for (int row = 0; row < 40; row++) {
                Given.due("told", x.has(7), row);
                x.run(row);
            }
            Given.due("told", x.has(7), 40);
            kept(x, 0, 0, 0, 1);
            kept(x, 39, 39, NONE, 1);
            x.run(40);
            Given.due("told", x.has(7), 40);
            kept(x, 0, 1, 0, 1);
            kept(x, 39, 40, NONE, 1);
        });
        Given.test("kept: NONE when there is none such, or for others", () -> {
            MatchTrees x = Given.matched("match num;arm any;");
            kept(x, 0, NONE, NONE, NONE);
            x.chance(40);
            for (int k : new int[] {-1, 40, LOW, HIGH}) {
                kept(x, k, NONE, NONE, NONE);
            }
            for (int what : new int[] {-1, 3, LOW, HIGH}) {
                Given.due("what " + what, x.kept(0, what), NONE);
            }
            Given.due("without a match", new MatchTrees().kept(0, 0), NONE);
        });
        Given.test("KEPT: how many COLUMNS were asked for, by the TREE of the rule as it is, till it ended", () -> {
            MatchTrees x = Given.matched("match num num;arm 1,1;arm any,1;arm any,any when 0;arm 2,any;");
            x.run(1 * 20 + 1);
            x.run(2 * 20 + 2);
            x.choose(1);
            x.run(2 * 20 + 1);
            x.run(2 * 20 + 2);
            x.turn(0);
            x.run(2 * 20 + 2);
            x.run(3 * 20 + 3);
            // By rule 0 first column 0, then 1. By rule 1 column 1 first; then, with 1, column 0, else
            // the door; behind it column 0.
            kept(x, 0, 21, 0, 2);
            kept(x, 1, 42, 2, 2);
            kept(x, 2, 41, 1, 2);
            kept(x, 3, 42, 2, 1);
            kept(x, 4, 42, 3, 2);
            kept(x, 5, 63, NONE, 2);
        });
        Given.test("KEPT: till it ended at an END, ARMS behind it or not", () -> {
            MatchTrees x = Given.matched("match num num;arm any,1;arm 2,any;arm 3,any;");
            x.run(2 * 20 + 1);
            x.run(2 * 20 + 2);
            kept(x, 0, 41, 0, 1);
            kept(x, 1, 42, 1, 2);
        });
        Given.test("KEPT: at a FAILURE, an END without any COLUMN asked for", () -> {
            MatchTrees x = Given.matched("match num;arm any when 0;");
            x.run(3);
            x.turn(0);
            x.run(3);
            x.drop(0);
            x.run(3);
            kept(x, 0, 3, 0, 0);
            kept(x, 1, 3, NONE, 0);
            kept(x, 2, 3, NONE, 0);
        });
        Given.test("chance: n ROWS (1 .. 40): how many no ARM TAKES; one ACT", () -> {
            MatchTrees x = Given.matched("match num;arm 18;");
            Given.due("1", x.chance(1), 0);
            Given.due("2", x.chance(2), 2);
            Given.due("acts", x.has(9), 2);
            Given.due("40", Given.matched("match num;").chance(40), 40);
            Given.due("40", Given.matched("match num;arm any;").chance(40), 0);
        });
        Given.test("chance: NONE, refused (2), when n can't be, or without a match", () -> {
            MatchTrees x = Given.matched("match num;arm any;");
            for (int n : new int[] {0, 41, -1, LOW, HIGH}) {
                Given.due("chance " + n, x.chance(n), NONE);
            }
            Given.due("refused", x.status(2), 5);
            Given.due("seed stays", x.has(10), 1);
            Given.due("none is kept", x.has(7), 0);
            Given.due("no act", x.has(9), 0);
            MatchTrees none = new MatchTrees();
            Given.due("without a match", none.chance(1), NONE);
            Given.due("seed stays", none.has(10), 1);
            Given.due("refused", none.status(2), 1);
        });
        Given.test("A DRAW of m: x becomes (1103515245 x + 12345) mod 2 to the 31; floor(x / 64) mod m", () -> {
            for (int seed : new int[] {0, 1, 2, 63, 64, 12345, 1 << 30, HIGH - 1, HIGH}) {
                MatchTrees x = Given.matched("match num num num;");
                x.seed(seed);
                x.chance(40);
                long drawn = seed;
                for (int k = 0; k < 40; k++) {
                    drawn = (1103515245L * drawn + 12345) % (1L << 31);
                    Given.due("row of " + seed, x.kept(k, 0), (int) (drawn / 64 % 8000));
                }
                Given.due("seed", x.has(10), (int) drawn);
            }
            MatchTrees one = Given.matched("kind a;con x;match a;");
            one.chance(40);
            Given.due("of one row", one.kept(39, 0), 0);
        });
    }

    private static void acts() {
        Given.test("swap: false, refused (3), when they are one, or there are none such", () -> {
            MatchTrees x = Given.matched("match num;arm 1;arm 2;arm 3;");
            int[][] none = {{0, 0}, {2, 2}, {0, 3}, {3, 0}, {-1, 0}, {0, -1}, {3, 3}, {LOW, 0}, {HIGH, LOW}};
            for (int[] a : none) {
                Given.due("swap " + a[0] + " " + a[1], x.swap(a[0], a[1]), false);
            }
            Given.due("refused", x.status(3), 9);
            Given.due("no act", x.has(9), 0);
            Given.arms("as told", x, 0, 1, 2);
            Given.due("swap", x.swap(2, 0), true);
            Given.arms("swapped", x, 2, 1, 0);
            Given.due("without a match", new MatchTrees().swap(0, 1), false);
        });
        Given.test("drop: false, refused (3), when there is none such; numbers of those behind it are one less", () -> {
            MatchTrees x = Given.matched("match num;arm 1;arm 2;arm 3;");
            for (int place : new int[] {3, -1, LOW, HIGH}) {
                Given.due("drop " + place, x.drop(place), false);
            }
            Given.due("refused", x.status(3), 4);
            Given.due("drop", x.drop(1), true);
            Given.arms("dropped", x, 0, 2);
            Given.due("behind", x.drop(2), false);
            Given.due("the last", x.drop(1), true);
            Given.due("the only one", x.drop(0), true);
            Given.arms("all", x);
            Given.due("none", x.drop(0), false);
            Given.due("without a match", new MatchTrees().drop(0), false);
        });
        Given.test("turn: A GUARD (0 .. 7): whether it is ON then (1, 0)", () -> {
            MatchTrees x = Given.matched("match num;");
            Given.due("all ON at first", x.has(5), 255);
            for (int guard = 0; guard < 8; guard++) {
                Given.due("off", x.turn(guard), 0);
                Given.due("bits", x.has(5), 255 - (1 << guard));
                Given.due("on", x.turn(guard), 1);
                Given.due("bits", x.has(5), 255);
            }
        });
        Given.test("turn: NONE, refused (3), when there is none such, or without a match", () -> {
            MatchTrees x = Given.matched("match num;arm 1 when 7;");
            for (int guard : new int[] {8, -1, 31, 32, LOW, HIGH}) {
                Given.due("turn " + guard, x.turn(guard), NONE);
            }
            Given.due("refused", x.status(3), 6);
            Given.due("bits", x.has(5), 255);
            MatchTrees none = new MatchTrees();
            Given.due("without a match", none.turn(0), NONE);
            Given.due("refused", none.status(3), 1);
            Given.due("bits", none.has(5), 0);
        });
        Given.test("choose: false, refused (3), when it is that, there is none such, or without a match", () -> {
            MatchTrees x = Given.matched("match num;rule 2;");
            for (int rule : new int[] {2, 4, -1, LOW, HIGH}) {
                Given.due("choose " + rule, x.choose(rule), false);
            }
            Given.due("refused", x.status(3), 5);
            Given.due("no act", x.has(9), 0);
            for (int rule : new int[] {0, 3, 1}) {
                Given.due("choose " + rule, x.choose(rule), true);
                Given.due("rule", x.has(6), rule);
                Given.due("that it is", x.choose(rule), false);
            }
            MatchTrees none = new MatchTrees();
            Given.due("without a match", none.choose(1), false);
            Given.due("without a match", none.choose(0), false);
            Given.due("refused", none.status(3), 2);
        });
        Given.test("undo: all that ACTS change is as it was ahead of it (but the seed)", BoundActTest::eachUndone);
        Given.test("undo: false, refused (4), when none can be", () -> {
            MatchTrees x = new MatchTrees();
            Given.due("without a match", x.undo(), false);
            Given.put(x, "match num;arm 1;");
            x.match();
            Given.due("no act", x.undo(), false);
            x.run(-1);
            x.chance(0);
            x.swap(0, 0);
            x.drop(1);
            x.turn(8);
            x.choose(0);
            Given.due("refused ones are none", x.undo(), false);
            x.seed(3);
            Given.put(x, 0, 0, 255);
            x.see();
            Given.due("seed and see are none", x.undo(), false);
            Given.due("refused", x.status(4), 4);
            x.turn(1);
            Given.due("one", x.undo(), true);
            Given.due("once", x.undo(), false);
            Given.due("refused", x.status(4), 5);
        });
        Given.test("ACTS: The last 20 can be undone", () -> {
            MatchTrees x = Given.matched("match num num;");
            for (int row = 0; row < 20; row++) {
                x.run(row);
                Given.due("acts", x.has(9), row + 1);
            }
            x.run(20);
            Given.due("acts", x.has(9), 20);
            for (int i = 0; i < 20; i++) {
                Given.due("undo", x.undo(), true);
                Given.due("acts", x.has(9), 19 - i);
                Given.due("told", x.has(7), 20 - i);
            }
            Given.due("the 21st", x.undo(), false);
            Given.due("told", x.has(7), 1);
            kept(x, 0, 0, NONE, 0);
            x.run(7);
            Given.due("acts", x.has(9), 1);
            Given.due("undo", x.undo(), true);
            Given.due("told", x.has(7), 1);
        });
        Given.test("undo: the 40 that were told as KEPT ahead of 20 ACTS of 40 ROWS each are told again", () -> {
            MatchTrees x = Given.matched("match num num;");
            for (int row = 0; row < 50; row++) {
                x.run(row);
            }
            for (int i = 0; i < 20; i++) {
                x.chance(40);
            }
            for (int i = 0; i < 20; i++) {
                x.undo();
            }
            Given.due("told", x.has(7), 40);
            for (int k = 0; k < 40; k++) {
                kept(x, k, 10 + k, NONE, 0);
            }
        });
        Given.test("seed: false, refused (5), when it is below 0", () -> {
            MatchTrees x = new MatchTrees();
            for (int seed : new int[] {-1, LOW}) {
                Given.due("seed " + seed, x.seed(seed), false);
            }
            Given.due("refused", x.status(5), 2);
            Given.due("seed stays", x.has(10), 1);
            for (int seed : new int[] {0, 1, HIGH}) {
                Given.due("seed " + seed, x.seed(seed), true);
                Given.due("seed", x.has(10), seed);
            }
        });
    }

    private static void eachUndone() {
        MatchTrees x = Given.matched("match num;arm 1;arm 2;arm 3;rule 1;");
        x.run(2);
        x.run(9);
        x.swap(0, 2);
        x.drop(0);
        x.turn(6);
        x.choose(0);
        x.chance(5);
        int seed = x.has(10);
        Given.due("told", x.has(7), 7);
        x.undo();
        Given.due("chance: told", x.has(7), 2);
        Given.due("chance: but the seed", x.has(10), seed);
        Given.due("chance: rule", x.has(6), 0);
        x.undo();
        Given.due("choose: rule", x.has(6), 1);
        Given.due("choose: guards", x.has(5), 191);
        x.undo();
        Given.due("turn: guards", x.has(5), 255);
        Given.arms("turn", x, 1, 0);
        x.undo();
        Given.arms("drop", x, 2, 1, 0);
        x.undo();
        Given.arms("swap", x, 0, 1, 2);
        x.undo();
        Given.due("run: told", x.has(7), 1);
        kept(x, 0, 2, 1, 1);
        x.undo();
        Given.due("run: told", x.has(7), 0);
        Given.due("acts", x.has(9), 0);
    }

    private static int[] image(int... ahead) {
        int[] bytes = Arrays.copyOf(ahead, ahead.length + 1);
        int check = 199;
        for (int b : ahead) {
            check = (5 * check + b) % 251;
        }
        bytes[ahead.length] = check;
        return bytes;
    }

    private static int[] append(int[] bytes, int more) {
        int[] all = Arrays.copyOf(bytes, bytes.length + 1);
        all[bytes.length] = more;
        return all;
    }

    private static void on(MatchTrees x, boolean due, int... bytes) {
        Given.put(x, bytes);
        Given.due("on " + Arrays.toString(bytes), x.on(), due);
        Given.due("the tape goes", x.end(1), false);
    }

    private static void written(MatchTrees x, int... due) {
        Given.due("image", x.image(), due.length);
        for (int k = 0; k < due.length; k++) {
            Given.due("octet " + k, x.octet(k), due[k]);
        }
        Given.due("octet behind", x.octet(due.length), NONE);
    }

    private static void images() {
        Given.test("image: ahead of a match 4", () -> {
            written(new MatchTrees(), 0, 0, 0, 26);
        });
        Given.test("AN IMAGE: how many ARMS; for each place the ARM as told; GUARDS; the rule; last a byte", () -> {
            MatchTrees x = Given.matched("match num;" + "arm 1;".repeat(12) + "rule 3;");
            x.swap(0, 11);
            x.turn(7);
            written(x, image(12, 11, 1, 2, 3, 4, 5, 6, 7, 8, 9, 10, 0, 127, 3));
            Given.due("16 bytes", x.image(), 16);
            for (int i = 0; i < 12; i++) {
                x.drop(0);
            }
            written(x, image(0, 127, 3));
        });
        Given.test("on: all is as it tells, nothing is KEPT, no ACT can be undone", () -> {
            MatchTrees x = Given.matched("match num;arm 1;arm 2;arm 3;rule 3;");
            x.run(0);
            x.seed(9);
            on(x, true, image(2, 2, 0, 129, 1));
            Given.arms("on", x, 2, 0);
            int[] has = {0, 0, 1, 20, 2, 129, 1, 0, 0, 0, 9};
            for (int what = 0; what < has.length; what++) {
                Given.due("has " + what, x.has(what), has[what]);
            }
            Given.due("kept", x.kept(0, 0), NONE);
            Given.due("undo", x.undo(), false);
            on(x, true, image(0, 0, 0));
            Given.arms("none", x);
            on(x, true, image(3, 1, 2, 0, 255, 3));
            Given.arms("all again", x, 1, 2, 0);
            Given.due("tests", x.tree(3, 3), 20);
        });
        Given.test("on: false, refused (5), all staying, if it is none such", () -> {
            MatchTrees x = Given.matched("match num;arm 1;arm 2;arm 3;rule 3;");
            x.run(0);
            x.swap(0, 1);
            int[][] none = {{}, image(), image(0), image(0, 255), image(0, 0, 255, 0), image(1, 255, 0),
                image(2, 0, 1, 255), image(3, 0, 1, 255, 0), append(image(3, 1, 0, 2, 255, 3), 0),
                append(image(0, 255, 3), 0), append(image(2, 1, 0, 255, 3), 199), image(3, 0, 1, 2, 255, 0, 0),
                image(2, 0, 1, 2, 255, 0), {255}, {3}, {3, 0, 1, 2}};
            for (int[] bytes : none) {
                on(x, false, bytes);
            }
            Given.due("refused", x.status(5), none.length);
            Given.due("acts stay", x.has(9), 2);
            Given.due("kept stays", x.has(7), 1);
            Given.arms("all staying", x, 1, 0, 2);
        });
        Given.test("on: ARMS as told, unlike ones", () -> {
            MatchTrees x = Given.matched("match num;arm 1;arm 2;arm 3;");
            on(x, false, image(1, 3, 255, 0));
            on(x, false, image(1, 255, 255, 0));
            on(x, false, image(2, 1, 1, 255, 0));
            on(x, false, image(3, 0, 2, 0, 255, 0));
            on(x, false, image(4, 0, 1, 2, 3, 255, 0));
            on(x, false, image(4, 0, 1, 2, 0, 255, 0));
            on(x, true, image(3, 2, 1, 0, 255, 0));
            MatchTrees twelve = Given.matched("match num;" + "arm 1;".repeat(12));
            on(twelve, false, image(13, 0, 1, 2, 3, 4, 5, 6, 7, 8, 9, 10, 11, 12, 255, 0));
            on(twelve, true, image(12, 0, 1, 2, 3, 4, 5, 6, 7, 8, 9, 10, 11, 255, 0));
        });
        Given.test("on: ARMS taken out are of this MATCH, too", () -> {
            MatchTrees x = Given.matched("match num;arm 1;arm 2;");
            x.drop(0);
            on(x, true, image(2, 0, 1, 255, 0));
            Given.arms("back", x, 0, 1);
        });
        Given.test("on: the rule 0 .. 3; GUARDS 0 .. 255", () -> {
            MatchTrees x = Given.matched("match num;arm 1;");
            for (int rule = 0; rule < 4; rule++) {
                on(x, true, image(0, 85 * rule, rule));
                Given.due("rule", x.has(6), rule);
                Given.due("guards", x.has(5), 85 * rule);
            }
            on(x, false, image(0, 255, 4));
            on(x, false, image(0, 255, 255));
        });
        Given.test("AN IMAGE: last a byte", () -> {
            MatchTrees x = Given.matched("match num;arm 1;");
            int due = image(1, 0, 255, 0)[4];
            for (int b = 0; b < 256; b++) {
                on(x, b == due, 1, 0, 255, 0, b);
            }
            int small = image(0, 0, 0)[3];
            on(x, false, 0, 0, 0, small + 1);
            on(x, true, 0, 0, 0, small);
        });
        Given.test("on: false, refused (5), without a match; the tape goes", () -> {
            MatchTrees x = new MatchTrees();
            on(x, false, image(0, 0, 0));
            Given.due("refused", x.status(5), 1);
        });
        Given.test("SEEN and the seed stay behind on() and undo()", () -> {
            MatchTrees x = Given.matched(GUARDED);
            see(x, 1, 0, 0, 0);
            x.turn(0);
            x.undo();
            Given.due("seen", x.has(8), 1);
            on(x, true, image(3, 0, 1, 2, 0, 0));
            Given.due("seen", x.has(8), 1);
            Given.due("sets", x.sets(NONE), 128);
        });
        Given.test("status: How many were refused; NONE for others", BoundActTest::refusals);
    }

    private static void refusals() {
        MatchTrees x = new MatchTrees();
        int[] due = new int[6];
        Runnable[] calls = {() -> x.end(1), () -> x.match(), () -> x.row(), () -> x.run(0), () -> x.chance(1),
            () -> x.swap(0, 1), () -> x.drop(0), () -> x.turn(0), () -> x.choose(0), () -> x.undo(), () -> x.seed(-1),
            () -> x.see(), () -> x.on()};
        int[] counted = {0, 1, 1, 2, 2, 3, 3, 3, 3, 4, 5, 5, 5};
        for (int i = 0; i < calls.length; i++) {
            calls[i].run();
            due[counted[i]]++;
            for (int what = 0; what < 6; what++) {
                Given.due("status " + what + " behind call " + i, x.status(what), due[what]);
            }
        }
        feed(x, 80);
        feed(x, 2);
        Given.due("feed", x.status(0), due[0] + 2);
        x.end(0);
        Given.put(x, "match num;");
        x.match();
        x.taken(-1);
        x.text(-1);
        x.tree(-1, 0);
        x.arm(-1, 0);
        x.safe(0, 9);
        x.sets(-2);
        x.has(-1);
        x.letter(0, 0, 0);
        x.status(-1);
        int[] then = {3, 2, 2, 4, 1, 3};
        for (int what = 0; what < 6; what++) {
            Given.due("no others are counted, a match takes none away: " + what, x.status(what), then[what]);
        }
        for (int what : new int[] {-1, 6, LOW, HIGH}) {
            Given.due("status " + what, x.status(what), NONE);
        }
    }

    public static void main(String[] args) {
        tape();
        changes();
        seen();
        telling();
        runs();
        acts();
        images();
        Given.finish();
    }
}
