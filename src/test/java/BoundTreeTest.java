import java.util.ArrayList;
import java.util.List;

/** Terms II, promises 6 to 13 and 15 to 19: one test for each sentence that names a bound. */
public final class BoundTreeTest {
    private static final int NONE = Given.NONE;
    private static final int LOW = Given.LOW;
    private static final int HIGH = Given.HIGH;
    // Values of o: n 0, s(t) 1, s(f) 2. Rows: n,t  n,f  s(t),t  s(t),f  s(f),t  s(f),f
    private static final String PAIR = "kind b;con t;con f;kind o;con n;con s b;match o b;";

    private static String line(MatchTrees x, int place, int column, int values) {
        StringBuilder s = new StringBuilder();
        for (int v = 0; v < values; v++) {
            s.append(x.fits(place, column, v));
        }
        return s.toString();
    }

    private static void asked() {
        Given.test("has: NONE for others", () -> {
            for (MatchTrees x : new MatchTrees[] {new MatchTrees(), Given.matched("match num;")}) {
                for (int what : new int[] {-1, 11, 12, LOW, HIGH}) {
                    Given.due("has " + what, x.has(what), NONE);
                }
            }
        });
        Given.test("has: Without a match all but the last are 0", () -> {
            MatchTrees x = new MatchTrees();
            x.turn(3);
            x.chance(2);
            x.seed(8);
            for (int what = 0; what < 10; what++) {
                Given.due("has " + what, x.has(what), 0);
            }
            Given.due("seed", x.has(10), 8);
        });
        Given.test("has: 0 KINDS (without num), 1 CONS", () -> {
            Given.due("kinds", Given.matched("match num;").has(0), 0);
            Given.due("kinds", Given.matched("kind a;match num;").has(0), 1);
            Given.due("cons", Given.matched("kind a;match num;").has(1), 0);
            Given.due("cons", Given.matched(PAIR).has(1), 4);
        });
        Given.test("letter: k (0 .. 5); 0 behind the NAME", () -> {
            MatchTrees x = Given.matched("kind a;con abcxyz;con bc;match a;");
            int[] abcxyz = {1, 2, 3, 24, 25, 26};
            int[] bc = {2, 3, 0, 0, 0, 0};
            for (int k = 0; k < 6; k++) {
                Given.due("letter " + k, x.letter(1, 0, k), abcxyz[k]);
                Given.due("letter " + k, x.letter(1, 1, k), bc[k]);
                Given.due("letter " + k, x.letter(0, 0, k), k == 0 ? 1 : 0);
            }
        });
        Given.test("letter: NONE when there is none such", () -> {
            MatchTrees x = Given.matched("kind a;con x;con y;match a;");
            int[][] none = {{0, 0, 6}, {0, 0, -1}, {1, 0, 6}, {1, 0, -1}, {0, 1, 0}, {0, -1, 0}, {1, 2, 0}, {1, -1, 0},
                {2, 0, 0}, {-1, 0, 0}, {LOW, LOW, LOW}, {HIGH, HIGH, HIGH}, {0, HIGH, 0}, {1, LOW, 0}, {0, 0, LOW}};
            for (int[] a : none) {
                Given.due("letter " + a[0] + " " + a[1] + " " + a[2], x.letter(a[0], a[1], a[2]), NONE);
            }
            Given.due("without a match", new MatchTrees().letter(0, 0, 0), NONE);
            Given.due("without a match", new MatchTrees().letter(1, 0, 0), NONE);
        });
        Given.test("values: of num for NONE; NONE when there is none such, or without a match", () -> {
            MatchTrees x = Given.matched("kind a;con x;kind b;con y num num;kind c;kind d;con z;con zz;match num;");
            int[] due = {20, 1, 400, 0, 2};
            for (int kind = NONE; kind < 4; kind++) {
                Given.due("values " + kind, x.values(kind), due[kind + 1]);
            }
            for (int kind : new int[] {4, -2, LOW, HIGH}) {
                Given.due("values " + kind, x.values(kind), NONE);
            }
            Given.due("without a match", new MatchTrees().values(NONE), NONE);
            Given.due("without a match", new MatchTrees().values(0), NONE);
        });
    }

    private static void valuesAndRows() {
        Given.test("VALUES of num are 0 .. 19; fits NONE when there are none such", () -> {
            MatchTrees x = Given.matched("match num;arm any;");
            Given.same("values", line(x, 0, 0, 20), "1".repeat(20));
            Given.due("20", x.fits(0, 0, 20), NONE);
            Given.due("-1", x.fits(0, 0, -1), NONE);
        });
        Given.test("fits: NONE when there are none such (place, column, value)", () -> {
            MatchTrees x = Given.matched(PAIR + "arm any,any;arm n,t;");
            int[][] none = {{2, 0, 0}, {-1, 0, 0}, {0, 2, 0}, {0, -1, 0}, {0, 0, 3}, {0, 1, 2}, {0, 0, -1}, {LOW, 0, 0},
                {0, LOW, 0}, {0, 0, LOW}, {HIGH, 0, 0}, {0, HIGH, 0}, {0, 0, HIGH}};
            for (int[] a : none) {
                Given.due("fits " + a[0] + " " + a[1] + " " + a[2], x.fits(a[0], a[1], a[2]), NONE);
            }
            Given.due("the last ones", x.fits(1, 1, 1), 0);
            Given.due("the last ones", x.fits(1, 0, 2), 0);
            Given.due("without a match", new MatchTrees().fits(0, 0, 0), NONE);
        });
        Given.test("VALUES of a KIND have numbers from 0 on: CON by CON, by the first FIELD, then the second", () -> {
            MatchTrees x = Given.matched("kind b;con t;con f;kind k;con p;con q b num;con r b;con s;match k;"
                + "arm p;arm q(t,0);arm q(t,19);arm q(f,0);arm q(f,19);arm r(t);arm r(f);arm s;");
            int[] due = {0, 1, 20, 21, 40, 41, 42, 43};
            for (int place = 0; place < due.length; place++) {
                Given.same("arm " + place, line(x, place, 0, 44),
                    "0".repeat(due[place]) + "1" + "0".repeat(43 - due[place]));
            }
        });
        Given.test("ROWS have numbers from 0 on, by the first COLUMN's, then the second's", () -> {
            MatchTrees x = Given.matched(PAIR + "arm n,t;arm n,f;arm s(t),t;arm s(t),f;arm s(f),t;arm s(f),f;");
            for (int row = 0; row < 6; row++) {
                Given.due("row " + row, x.taken(row), row);
            }
        });
        Given.test("ROWS, where a COLUMN has one VALUE", () -> {
            MatchTrees x = Given.matched("kind a;con z;match a num a;arm any,0 to 9,z;arm z,10 to 18,any;");
            Given.due("rows", x.has(3), 20);
            for (int row = 0; row < 20; row++) {
                Given.due("taken " + row, x.taken(row), row < 10 ? 0 : row < 19 ? 1 : NONE);
                Given.same("text " + row, Given.octets(x, x.text(row)), "z," + row + ",z");
            }
            x.chance(1);
            Given.due("asked", x.kept(0, 2), 1);
        });
        Given.test("FITS: N itself, N to N all from one to the other", () -> {
            MatchTrees x = Given.matched("match num;arm 0;arm 19;arm 3 to 5;arm 0 to 0;arm 18 to 19;arm 0 to 19;");
            Given.same("0", line(x, 0, 0, 20), "10000000000000000000");
            Given.same("19", line(x, 1, 0, 20), "00000000000000000001");
            Given.same("3 to 5", line(x, 2, 0, 20), "00011100000000000000");
            Given.same("0 to 0", line(x, 3, 0, 20), "10000000000000000000");
            Given.same("18 to 19", line(x, 4, 0, 20), "00000000000000000011");
            Given.same("0 to 19", line(x, 5, 0, 20), "11111111111111111111");
        });
        Given.test("FITS: a CON all VALUES of it whose FIELDS its PATTERNS FIT; alternatives what any FITS", () -> {
            MatchTrees x = Given.matched("kind b;con t;con f;kind k;con p;con q b b;con r b;match k;"
                + "arm q(any,f);arm q(t,t)or r(f);arm q(t or f,t)or p;arm p or p;arm q(f,any)or q(t,f)or r(any)or any;"
                + "arm q(t,t)or q(f,f);");
            Given.same("q(any,f)", line(x, 0, 0, 7), "0010100");
            Given.same("q(t,t) or r(f)", line(x, 1, 0, 7), "0100001");
            Given.same("q(t or f,t) or p", line(x, 2, 0, 7), "1101000");
            Given.same("p or p", line(x, 3, 0, 7), "1000000");
            Given.same("or any", line(x, 4, 0, 7), "1111111");
            Given.same("q(t,t) or q(f,f)", line(x, 5, 0, 7), "0100100");
            MatchTrees y = Given.matched("kind b;con t;con f;kind k;con p num;con q b;con r num;match k;"
                + "arm p(any)or q(any);arm r(any)or q(t);arm q(any);");
            Given.same("p(any) or q(any)", line(y, 0, 0, 42), "1".repeat(22) + "0".repeat(20));
            Given.same("r(any) or q(t)", line(y, 1, 0, 42), "0".repeat(20) + "10" + "1".repeat(20));
            Given.same("q(any)", line(y, 2, 0, 42), "0".repeat(20) + "11" + "0".repeat(20));
            MatchTrees z = Given.matched("kind a;con p num;kind b;con q num a;match b;arm q(3 or 7,p(5 to 6));");
            for (int v = 0; v < 400; v++) {
                boolean due = (v / 20 == 3 || v / 20 == 7) && (v % 20 == 5 || v % 20 == 6);
                Given.due("q(3 or 7,p(5 to 6)) fits " + v, z.fits(0, 0, v), due ? 1 : 0);
            }
            MatchTrees w = Given.matched("kind a;con o;con p num;kind b;con n;con q a num;match b;"
                + "arm q(p(5 to 6)or o,3);");
            for (int v = 0; v < 421; v++) {
                boolean due = v == 4 || v == 1 + 6 * 20 + 3 || v == 1 + 7 * 20 + 3;
                Given.due("q(p(5 to 6) or o,3) fits " + v, w.fits(0, 0, v), due ? 1 : 0);
            }
        });
    }

    private static void armsAndRows() {
        Given.test("arm: NONE when there is none such, or for others", () -> {
            MatchTrees x = Given.matched("match num;arm 1;arm 2 when 7;");
            for (int place : new int[] {-1, 2, 11, 12, LOW, HIGH}) {
                for (int what = 0; what < 5; what++) {
                    Given.due("arm " + place + " " + what, x.arm(place, what), NONE);
                }
            }
            for (int what : new int[] {-1, 5, LOW, HIGH}) {
                Given.due("arm 0 " + what, x.arm(0, what), NONE);
            }
            Given.due("without a match", new MatchTrees().arm(0, 0), NONE);
            x.drop(0);
            Given.due("one less", x.arm(1, 0), NONE);
            Given.due("numbers of those behind it are one less", x.arm(0, 0), 1);
        });
        Given.test("arm: its GUARD (NONE: none)", () -> {
            MatchTrees x = Given.matched("match num;arm 1;arm 2 when 0;arm 2 when 7;");
            Given.due("none", x.arm(0, 1), NONE);
            Given.due("0", x.arm(1, 1), 0);
            Given.due("7", x.arm(2, 1), 7);
        });
        Given.test("An ARM is USEFUL, if there is a ROW that FITS it and no ARM ahead of it without a GUARD", () -> {
            MatchTrees x = Given.matched("match num;arm 1 to 5 when 0;arm 1 to 5;arm 5;arm 5 to 6;arm 0 to 4 or 6;"
                + "arm 0 to 6;arm 7 to 19;arm any;");
            int[] due = {1, 1, 0, 1, 1, 0, 1, 0};
            for (int place = 0; place < due.length; place++) {
                Given.due("arm " + place, x.arm(place, 2), due[place]);
            }
            x.turn(0);
            Given.due("whatever is on", x.arm(2, 2), 0);
        });
        Given.test("An ARM TAKES a ROW, if it is the first that FITS, and has no GUARD or one that is ON", () -> {
            MatchTrees x = Given.matched("match num;arm 0 to 9 when 0;arm 0 to 4 when 7;arm 3 to 12;");
            taken(x, "00000000002220000000", 0, 13);
            x.turn(0);
            taken(x, "11111222222220000000", 1, 13);
            x.turn(7);
            taken(x, "...22222222220000000", 3, 13);
        });
        Given.test("taken: NONE when none does, or there is none such", () -> {
            MatchTrees x = Given.matched("match num;arm 0 to 18;arm 19 when 3;");
            Given.due("the last", x.taken(19), 1);
            x.turn(3);
            Given.due("none does", x.taken(19), NONE);
            for (int row : new int[] {-1, 20, LOW, HIGH}) {
                Given.due("taken " + row, x.taken(row), NONE);
            }
            Given.due("without a match", new MatchTrees().taken(0), NONE);
        });
        Given.test("arm: 3 how many ROWS FIT it, 4 how many it TAKES", () -> {
            MatchTrees x = Given.matched("match num num;arm 0 to 4,any when 0;arm any,19;arm 0,0 to 18;");
            int[][] due = {{100, 100}, {20, 15}, {19, 0}};
            for (int place = 0; place < 3; place++) {
                Given.due("fit", x.arm(place, 3), due[place][0]);
                Given.due("take", x.arm(place, 4), due[place][1]);
            }
            x.turn(0);
            Given.due("off", x.arm(0, 4), 0);
            Given.due("on by the next", x.arm(1, 4), 20);
            Given.due("and that behind", x.arm(2, 4), 19);
        });
        Given.test("holds: each ROW that FITS the second FITS the first; NONE when there are none such", () -> {
            MatchTrees x = Given.matched("match num num;arm 0 to 18,any;arm any,3;arm 0 to 18,3 when 0;"
                + "arm any,0 to 19;");
            String[] due = {"1010", "0110", "0010", "1111"};
            for (int one = 0; one < 4; one++) {
                for (int other = 0; other < 4; other++) {
                    Given.due("holds " + one + " " + other, x.holds(one, other), due[one].charAt(other) - '0');
                }
            }
            int[][] none = {{0, 4}, {4, 0}, {0, -1}, {-1, 0}, {4, 4}, {-1, -1}, {LOW, HIGH}, {HIGH, LOW}};
            for (int[] a : none) {
                Given.due("holds " + a[0] + " " + a[1], x.holds(a[0], a[1]), NONE);
            }
            Given.due("without a match", new MatchTrees().holds(0, 0), NONE);
        });
        Given.test("MISSING are the ROWS that FIT no ARM without a GUARD: how many (k NONE), the k-th", () -> {
            MatchTrees x = Given.matched("match num;arm 0 to 3 when 0;arm 1;arm 5 to 18;");
            int[] due = {0, 2, 3, 4, 19};
            Given.due("how many", x.missing(NONE), 5);
            for (int k = 0; k < 5; k++) {
                Given.due("missing " + k, x.missing(k), due[k]);
            }
            Given.due("none", Given.matched("match num;arm any;").missing(NONE), 0);
            Given.due("all", Given.matched("match num;").missing(19), 19);
        });
        Given.test("missing: NONE when there is none such, or without a match", () -> {
            MatchTrees x = Given.matched("match num;arm 0 to 17;");
            for (int k : new int[] {2, -2, LOW, HIGH}) {
                Given.due("missing " + k, x.missing(k), NONE);
            }
            Given.due("none missing", Given.matched("match num;arm any;").missing(0), NONE);
            Given.due("all missing", Given.matched("match num;").missing(20), NONE);
            Given.due("without a match", new MatchTrees().missing(NONE), NONE);
            Given.due("without a match", new MatchTrees().missing(0), NONE);
        });
    }

    /** Which arm takes each row: 2, 1, 0 by its place, a point by none, as far as the rows go. */
    private static void taken(MatchTrees x, String due, int from, int to) {
        for (int row = from; row < to; row++) {
            int want = due.charAt(row) == '.' ? NONE : due.charAt(row) - '0';
            Given.due("taken " + row, x.taken(row), want);
        }
        for (int row = to; row < 20; row++) {
            Given.due("taken " + row, x.taken(row), NONE);
        }
    }

    private static void texts() {
        Given.test("text: of num the number, else the NAME, ( and ) around FIELDS with a comma between", () -> {
            MatchTrees x = Given.matched("kind b;con t;con f;kind k;con p;con quiet b num;con r b;match num k;");
            int[] rows = {0, 19 * 43, 10 * 43 + 1, 9 * 43 + 40, 43 + 41, 20 * 43 - 1};
            String[] due = {"0,p", "19,p", "10,quiet(t,0)", "9,quiet(f,19)", "1,r(t)", "19,r(f)"};
            for (int i = 0; i < rows.length; i++) {
                int length = x.text(rows[i]);
                Given.due("length", length, due[i].length());
                Given.same("text", Given.octets(x, length), due[i]);
            }
        });
        Given.test("text: NAMES of 1 to 6 letters, as deep as KINDS go", () -> {
            MatchTrees x = Given.matched("kind a;con azbyaa num;con z;kind b;con zazaza a a;kind c;con aaaaaa b;"
                + "kind d;con aa c;match d;");
            String text = "aa(aaaaaa(zazaza(azbyaa(19),z)))";
            Given.due("length", x.text(19 * 21 + 20), text.length());
            Given.same("text", Given.octets(x, text.length()), text);
            Given.due("length", x.text(440), "aa(aaaaaa(zazaza(z,z)))".length());
        });
        Given.test("text: NONE when there is none such", () -> {
            MatchTrees x = Given.matched("match num;");
            for (int row : new int[] {-1, 20, LOW, HIGH}) {
                Given.due("text " + row, x.text(row), NONE);
            }
            Given.due("without a match", new MatchTrees().text(0), NONE);
        });
        Given.test("octet: of the latest text() or image(); NONE when there is none such", () -> {
            MatchTrees x = new MatchTrees();
            Given.due("ahead of any", x.octet(0), NONE);
            Given.put(x, "match num;arm 1;");
            x.match();
            Given.due("ahead of any", x.octet(0), NONE);
            x.text(17);
            Given.due("byte 0", x.octet(0), '1');
            Given.due("byte 1", x.octet(1), '7');
            for (int k : new int[] {-1, 2, LOW, HIGH}) {
                Given.due("byte " + k, x.octet(k), NONE);
            }
            x.image();
            Given.due("the image's last but one", x.octet(3), 0);
            Given.due("behind the image", x.octet(5), NONE);
            x.text(3);
            Given.due("behind a shorter text", x.octet(1), NONE);
        });
    }

    /** Nodes, unlike ones, the longest way, all tests, the column that is asked first. */
    private static void tree(MatchTrees x, int rule, int... due) {
        for (int what = 0; what < 4; what++) {
            Given.due("tree " + rule + " " + what, x.tree(rule, what), due[what]);
        }
        Given.due("first " + rule, x.first(rule), due[4]);
    }

    private static void everyRule(String text, int... due) {
        MatchTrees x = Given.matched(text);
        for (int rule = 0; rule < 4; rule++) {
            tree(x, rule, due);
        }
    }

    private static void nodes() {
        Given.test("Without ARMS LEFT it is a FAILURE", () -> {
            everyRule("match num num;", 1, 1, 0, 0, NONE);
            MatchTrees x = Given.matched("match num;arm 1;");
            tree(x, 0, 3, 3, 1, 20, 0);
            x.drop(0);
            tree(x, 0, 1, 1, 0, 0, NONE);
        });
        Given.test("if the PATTERN of the first ARM LEFT is FULL in each COLUMN LEFT: an END", () -> {
            everyRule("match num num;arm any,any;arm 1,2;", 1, 1, 0, 0, NONE);
            everyRule("match num;arm 0 to 19;", 1, 1, 0, 0, NONE);
            everyRule("match num;arm 10 to 19 or 0 to 9;", 1, 1, 0, 0, NONE);
            everyRule("match num;arm 0 to 18;", 3, 3, 1, 20, 0);
            everyRule("match num;arm 1 to 19;", 3, 3, 1, 20, 0);
            everyRule(PAIR + "arm s(t or f) or n,f or t;", 1, 1, 0, 0, NONE);
            everyRule(PAIR + "arm s(any),any;", 3, 3, 1, 6, 0);
        });
        Given.test("a DOOR: one branch, with the ARMS LEFT but that one", () -> {
            everyRule("match num;arm any when 0;", 2, 2, 0, 0, NONE);
            everyRule("match num;arm any when 0;arm any;arm 3;", 2, 2, 0, 0, NONE);
            everyRule("match num;arm any when 0;arm any when 0;arm 3;", 5, 5, 1, 0, 0);
            everyRule("match num;" + "arm any when 7;".repeat(12), 13, 13, 0, 0, NONE);
        });
        Given.test("if the GUARD is off a ROW goes on; if it is ON, the ROW ends there", () -> {
            MatchTrees two = Given.matched("match num;arm any when 1;arm 5;");
            tree(two, 0, 4, 4, 1, 0, 0);
            two.turn(1);
            tree(two, 0, 4, 4, 1, 20, 0);
            two.turn(0);
            tree(two, 0, 4, 4, 1, 20, 0);
        });
        Given.test("it asks for a COLUMN in which the PATTERN of the first ARM LEFT is not FULL", () -> {
            MatchTrees x = Given.matched("match num num;arm any,1 to 9;arm 1 to 3,0;arm 2,0;arm 5,any;");
            for (int rule = 0; rule < 4; rule++) {
                Given.due("first " + rule, x.first(rule), 1);
            }
        });
        Given.test("rule 0 the first", () -> {
            MatchTrees x = Given.matched("match num num num;arm any,1,1;arm any,2,1;arm any,3,1;");
            Given.due("rule 0", x.first(0), 1);
            Given.due("rule 2", x.first(2), 2);
            MatchTrees door = Given.matched("match num num;arm any,1 when 0;arm 2,any;");
            for (int rule = 0; rule < 4; rule++) {
                Given.due("of an arm with a guard, too", door.first(rule), 1);
            }
        });
        Given.test("rule 1 that in which most ARMS LEFT, from the first on one behind the other, are not FULL", () -> {
            MatchTrees x = Given.matched("match num num;arm 1,1;arm any,1;arm 1,any;arm 1,any;arm 1,any;");
            Given.due("rule 1", x.first(1), 1);
            MatchTrees y = Given.matched("match num num;arm 1,1;arm 1,any;arm any,1;arm any,1;");
            Given.due("rule 1", y.first(1), 0);
            MatchTrees all = Given.matched("match num num;arm 1,1;arm any,1;");
            Given.due("to the last arm", all.first(1), 1);
        });
        Given.test("rule 2 that with fewest branches", () -> {
            MatchTrees x = Given.matched("match num num;arm 1,1;arm 2,1;");
            tree(x, 2, 6, 6, 2, 400 + 20, 1);
            tree(x, 0, 8, 7, 2, 400 + 20 + 20, 0);
        });
        Given.test("rule 3 that of which the branch with most ARMS LEFT has fewest", () -> {
            MatchTrees x = Given.matched("match num num;arm 1,1;arm 1,2;arm 2,3;arm 2,1;");
            Given.due("two and two", x.first(3), 0);
            MatchTrees y = Given.matched("match num num;arm 1,1;arm 1,2;arm 1,3;arm 2,1;");
            Given.due("three and two", y.first(3), 1);
            Given.due("but by 2", y.first(2), 0);
            MatchTrees least = Given.matched("match num num;arm 0,1;arm 0,2;arm 0,3;arm 1,1;");
            Given.due("three of the least value", least.first(3), 1);
            MatchTrees last = Given.matched("match num num;arm 19,1;arm 19,2;arm 19,3;arm 1,1;");
            Given.due("three of the last value", last.first(3), 1);
        });
        Given.test("of like ones the first (COLUMNS)", () -> {
            MatchTrees x = Given.matched("match num num num;arm any,1,1;arm any,2,2;");
            for (int rule = 0; rule < 4; rule++) {
                Given.due("first " + rule, x.first(rule), 1);
            }
        });
        Given.test("two VALUES are of one branch, if they FIT the same of the ARMS LEFT", () -> {
            // Behind 0 to 4 the first arm is left alone, so 7 and 8 are of one branch there.
            MatchTrees x = Given.matched("match num num;arm 0 to 4,7 to 8;arm 5,7;arm 5,8;arm 5,9;");
            tree(x, 0, 10, 9, 2, 400 + 5 * 20 + 20, 0);
        });
    }

    private static void trees() {
        Given.test("tree: NONE when there is none such, or for others", () -> {
            MatchTrees x = Given.matched("match num;arm 1;");
            for (int wild : new int[] {-1, 4, LOW, HIGH}) {
                Given.due("rule " + wild, x.tree(wild, 0), NONE);
                Given.due("what " + wild, x.tree(0, wild), NONE);
                Given.due("both " + wild, x.tree(wild, wild), NONE);
            }
            for (int rule = 0; rule < 4; rule++) {
                Given.due("without a match", new MatchTrees().tree(rule, 0), NONE);
            }
        });
        Given.test("tree: 1 how many unlike ones (by ARMS and COLUMNS LEFT)", () -> {
            // Behind 1 and 2 in column 0 the same arm is left: one node for both and all below it,
            // but failures with a column left and without one are unlike.
            MatchTrees x = Given.matched("match num num;arm 1 or 2,5;arm 2 or 3,5;");
            Given.due("nodes", x.tree(0, 0), 1 + 3 * 3 + 1);
            Given.due("unlike", x.tree(0, 1), 1 + 3 + 1 + 4);
        });
        Given.test("tree: 2 how many COLUMNS are asked for on the longest way", () -> {
            Given.due("one", Given.matched("match num num;arm 1,any;").tree(0, 2), 1);
            Given.due("four", Given.matched("kind b;con t;con f;match b b b b;arm t,t,t,t;").tree(3, 2), 4);
            Given.due("behind a door", Given.matched("match num num;arm any,any when 1;arm 1,2;").tree(0, 2), 2);
        });
        Given.test("tree: 3 all tests together (over all ROWS, as KEPT)", () -> {
            Given.due("an odd number", Given.matched("kind a;con x;con y;con z;match a;arm x;").tree(0, 3), 3);
            Given.due("rows of KEPT", Given.matched("match num num;arm 3,4;").tree(0, 3), 420);
            StringBuilder s = new StringBuilder("kind five;con fa;con fb;con fc;con fd;con fe;kind ten;con ta five;"
                + "con tb five;match num num ten five;");
            for (int arm = 0; arm < 8; arm++) {
                s.append("arm ").append((arm & 1) == 0 ? "0 to 9" : "10 to 19").append((arm & 2) == 0 ? ",0 to 9"
                    : ",10 to 19").append((arm & 4) == 0 ? ",ta(any)" : ",tb(any)").append(",fe;");
            }
            MatchTrees x = Given.matched(s.toString());
            Given.due("rows", x.has(3), 20000);
            for (int rule = 0; rule < 2; rule++) {
                tree(x, rule, 1 + 2 + 4 + 8 + 16, 1 + 2 + 4 + 8 + 9, 4, 80000, 0);
            }
            x.choose(1);
            Given.due("none better", x.best(1), 80000);
            Given.due("in four columns", x.scopes(0, 1, 0), 5);
        });
        Given.test("THE TREE is of the ARMS that are there: one is taken out, two change places", () -> {
            String[] arms = {"arm 1,1 to 9;", "arm 1 to 3,2 when 0;", "arm any,3;", "arm 2,any when 1;",
                "arm 7,8 or 9;"};
            for (int out = 0; out < 5; out++) {
                StringBuilder s = new StringBuilder("match num num;");
                for (int arm = 0; arm < 5; arm++) {
                    s.append(arm == out ? "" : arms[arm]);
                }
                MatchTrees less = Given.matched(s.toString());
                MatchTrees x = Given.matched("match num num;" + String.join("", arms));
                x.drop(out);
                MatchTrees changed = Given.matched("match num num;" + String.join("", arms) + "arm 1,any;");
                changed.swap(out, 5);
                changed.drop(5);
                x.best(0);
                for (int rule = 0; rule < 4; rule++) {
                    Given.due("first", x.first(rule), less.first(rule));
                    for (int what = 0; what < 4; what++) {
                        Given.due("tree", x.tree(rule, what), less.tree(rule, what));
                    }
                    for (int k = 0; k < 60; k++) {
                        Given.due("shut", x.scopes(rule, 3, k), less.scopes(rule, 3, k));
                    }
                }
                Given.due("arms", changed.has(4), 5);
                Given.due("the changed one", changed.arm(out, 0), 5);
            }
        });
        Given.test("best: trees behind it are of the ARMS as they stand", () -> {
            MatchTrees x = Given.matched("match num num;arm 2,2;arm any,1;");
            x.best(0);
            Given.due("first", x.first(0), 0);
            x.best(0);
            Given.due("scopes", x.scopes(0, 0, 0), x.tree(0, 0));
            x.best(0);
            x.run(3);
            Given.due("asked", x.kept(0, 2), 2);
        });
        Given.test("tree: Whatever the budget", () -> {
            MatchTrees x = Given.matched("match num num;arm 1,2;budget 1;");
            tree(x, 0, 5, 5, 2, 420, 0);
        });
        Given.test("first: DOORS being gone through; NONE when for none, or there is none such", () -> {
            MatchTrees x = Given.matched("match num num;" + "arm any,any when 0;".repeat(11) + "arm any,3;");
            Given.due("behind 11 doors", x.first(0), 1);
            Given.due("for none", Given.matched("match num;" + "arm any when 0;".repeat(12)).first(0), NONE);
            Given.due("an end", Given.matched("match num;arm any when 0;arm any;arm 3;").first(0), NONE);
            for (int rule : new int[] {-1, 4, LOW, HIGH}) {
                Given.due("rule " + rule, x.first(rule), NONE);
            }
            Given.due("without a match", new MatchTrees().first(0), NONE);
        });
    }

    private static void scopes(String text, int opened, int most, int stopped, int... shut) {
        MatchTrees x = Given.matched(text);
        for (int rule = 0; rule < 4; rule++) {
            Given.due("opened", x.scopes(rule, 0, 0), opened);
            Given.due("most", x.scopes(rule, 1, 0), most);
            Given.due("stopped", x.scopes(rule, 2, 0), stopped);
            for (int k = 0; k < shut.length; k++) {
                Given.due("shut as " + k, x.scopes(rule, 3, k), shut[k]);
            }
            for (int k : new int[] {-1, shut.length, LOW, HIGH}) {
                Given.due("shut as " + k, x.scopes(rule, 3, k), NONE);
            }
        }
    }

    private static void building() {
        String text = "match num num;arm 1,any when 0;arm 1,3;";
        Given.test("a SCOPE is opened for each NODE; it is shut when all below it is done", () -> {
            scopes(text, 6, 4, 0, 1, 4, 5, 3, 2, 0);
            scopes("match num;", 1, 1, 0, 0);
            scopes("match num;arm any;", 1, 1, 0, 0);
            scopes("match num;arm any when 0;", 2, 2, 0, 1, 0);
        });
        Given.test("scopes: THE TREE by a rule", () -> {
            MatchTrees x = Given.matched("match num num;arm 1,1;arm 2,1;");
            for (int rule : new int[] {0, 2, 0, 1, 3, 2}) {
                Given.due("opened by " + rule, x.scopes(rule, 0, 0), x.tree(rule, 0));
            }
            Given.due("by 0", x.scopes(0, 0, 0), 8);
            Given.due("by 2", x.scopes(2, 0, 0), 6);
            Given.put(x, "match num;");
            x.match();
            Given.due("most open, behind a larger one", x.scopes(0, 1, 0), 1);
        });
        Given.test("Branches come by their least VALUE", () -> {
            // Values 0 fit the second arm, 1 none, 2 the first: a node that goes on, a failure, an end.
            scopes("match num num;arm 2,any;arm 0,7;", 6, 3, 0, 2, 3, 1, 4, 5, 0);
        });
        Given.test("If more SCOPES would be opened than budget tells, it is STOPPED", () -> {
            scopes(text + "budget 6;", 6, 4, 0, 1, 4, 5, 3, 2, 0);
            scopes(text + "budget 7;", 6, 4, 0, 1, 4, 5, 3, 2, 0);
            scopes(text + "budget 5;", 5, 4, 1, 1, 4, 3, 2, 0);
            scopes("match num;budget 1;", 1, 1, 0, 0);
            scopes("match num;arm 1;budget 1;", 1, 1, 1, 0);
        });
        Given.test("STOPPED: none is opened any more, and all that stand open are shut, the latest first", () -> {
            scopes(text + "budget 4;", 4, 3, 1, 1, 3, 2, 0);
            scopes(text + "budget 3;", 3, 2, 1, 1, 2, 0);
            scopes(text + "budget 2;", 2, 2, 1, 1, 0);
            scopes("match num;" + "arm any when 0;".repeat(12) + "budget 12;", 12, 12, 1, 11, 10, 9, 8, 7, 6, 5, 4,
                3, 2, 1, 0);
        });
        Given.test("how many stood open at once at the most: 12 doors, 4 columns and what is behind them", () -> {
            String deep = "kind b;con t;con f;match b b b b;" + "arm any,any,any,any when 0;".repeat(7)
                + "arm t,t,t,t when 1;".repeat(5);
            scopes(deep, 21, 17, 0, 16, 15, 14, 13, 12, 11, 17, 10, 18, 9, 19, 8, 20, 7, 6, 5, 4, 3, 2, 1, 0);
        });
        Given.test("budget: 300 without", BoundTreeTest::budgetWithout);
        Given.test("budget N (1 .. 999): 999 SCOPES are opened", BoundTreeTest::budgetMost);
        Given.test("scopes: NONE when there is none such, or for others", () -> {
            MatchTrees x = Given.matched(text);
            for (int wild : new int[] {-1, 4, LOW, HIGH}) {
                Given.due("rule " + wild, x.scopes(wild, 0, 0), NONE);
                Given.due("what " + wild, x.scopes(0, wild, 0), NONE);
            }
            for (int rule = 0; rule < 4; rule++) {
                Given.due("without a match", new MatchTrees().scopes(rule, 0, 0), NONE);
            }
        });
    }

    /** The numbers with a bit of theirs set (1) or not (0), one or the other. */
    private static String half(int bit, int set) {
        List<String> numbers = new ArrayList<>();
        for (int v = 0; v < 20; v++) {
            if ((v >> bit & 1) == set) {
                numbers.add("" + v);
            }
        }
        return String.join(" or ", numbers);
    }

    /** Arms by the five bits of numbers: in a line ? are those with the bit, ! those without it. */
    private static String bits(String columns, String line) {
        StringBuilder s = new StringBuilder("kind b;con t;con f;match " + columns + ";");
        for (int bit = 0; bit < 5; bit++) {
            s.append(line.replace("?", half(bit, 1)).replace("!", half(bit, 0)));
        }
        return s.toString();
    }

    private static void budgetWithout() {
        String text = bits("num num b", "arm ?,?,t;");
        Given.due("nodes", Given.matched(text).tree(0, 0), 277);
        MatchTrees x = Given.matched(text + "arm 0 to 3,0 to 17,f;");
        Given.due("nodes", x.tree(0, 0), 300);
        Given.due("opened", x.scopes(0, 0, 0), 300);
        Given.due("stopped", x.scopes(0, 2, 0), 0);
        Given.due("the last is shut", x.scopes(0, 3, 299), 0);
        MatchTrees y = Given.matched(text.replace("b;arm", "b;arm any,any,any when 0;arm") + "arm 0 to 3,0 to 17,f;");
        Given.due("nodes", y.tree(0, 0), 301);
        Given.due("opened", y.scopes(0, 0, 0), 300);
        Given.due("stopped", y.scopes(0, 2, 0), 1);
        Given.due("the last is shut", y.scopes(0, 3, 299), 0);
        Given.due("none behind", y.scopes(0, 3, 300), NONE);
    }

    private static void budgetMost() {
        // Below each of 20 branches is the tree of two columns of num with five arms: 119 nodes.
        MatchTrees x = Given.matched(bits("num num num", "arm ?,?,?;arm !,?,?;") + "budget 999;");
        Given.due("nodes", x.tree(0, 0), 1 + 20 * 119);
        Given.due("opened", x.scopes(0, 0, 0), 999);
        Given.due("stopped", x.scopes(0, 2, 0), 1);
        Given.due("the last is shut", x.scopes(0, 3, 998), 0);
        Given.due("none behind", x.scopes(0, 3, 999), NONE);
    }

    public static void main(String[] args) {
        asked();
        valuesAndRows();
        armsAndRows();
        texts();
        nodes();
        trees();
        building();
        Given.finish();
    }
}
