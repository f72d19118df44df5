/** For each promise: ordinary answers, the edges that the document names, wrong arguments. */
public final class PromiseTest {
    private static final int NONE = MatchTrees.NONE;
    private static final int LOW = Integer.MIN_VALUE;
    private static final int HIGH = Integer.MAX_VALUE;
    // Rows: n,t  n,f  s(t),t  s(t),f  s(f),t  s(f),f
    private static final String PAIR = "kind b;con t;con f;kind o;con n;con s b;match o b;"
        + "arm n,any;arm any,t when 2;arm s(t or f),f;arm s(t),any;arm n,f when 3;";
    private static final String THREE = "match num;arm 0 to 4;arm 3 to 9;arm any;";

    private static void promise1() {
        MatchTrees x = new MatchTrees();
        Given.due("NONE", MatchTrees.NONE, -1);
        for (int what = 0; what < 10; what++) {
            Given.due("new has " + what, x.has(what), 0);
        }
        Given.due("new seed", x.has(10), 1);
        Given.due("new tape", x.end(1), false);
        Given.due("new arm", x.arm(0, 0), NONE);
    }

    private static void promise2() {
        MatchTrees x = new MatchTrees();
        Given.due("feed", x.feed(0x6d617463, 0x68206e75, 0x6d3b6172, 0x6d203320, 0x746f2037), 20);
        Given.due("feed", x.feed(0x3b202020, 0x20202020, 0x20202020, 0x20202020, 0x20202020), 40);
        Given.due("match", x.match(), 2);
        Given.due("fit", x.arm(0, 3), 5);
        for (int i = 1; i <= 80; i++) {
            Given.due("feed " + i, x.feed(HIGH, LOW, -1, 0, 7), 20 * i);
        }
        Given.due("feed 81", x.feed(1, 2, 3, 4, 5), NONE);
        Given.due("refused", x.status(0), 1);
        x.end(1581);
        Given.due("feed of 1601", x.feed(1, 2, 3, 4, 5), NONE);
        x.end(1580);
        Given.due("feed of 1600", x.feed(1, 2, 3, 4, 5), 1600);
        Given.due("refused", x.status(0), 2);
    }

    private static void promise3() {
        MatchTrees x = new MatchTrees();
        x.feed(0x31207820, 0, 0, 0, 0);
        Given.due("end 21", x.end(21), false);
        Given.due("end -1", x.end(-1), false);
        Given.due("end low", x.end(LOW), false);
        Given.due("end high", x.end(HIGH), false);
        Given.due("refused", x.status(0), 4);
        Given.due("end 20", x.end(20), true);
        Given.due("end 3", x.end(3), true);
        Given.due("end 4", x.end(4), false);
        Given.due("end 0", x.end(0), true);
        Given.due("end 1", x.end(1), false);
        Given.due("feed", x.feed(0, 0, 0, 0, 0), 20);
    }

    private static void promise4() {
        MatchTrees x = Given.matched(PAIR);
        x.seed(77);
        x.run(0);
        x.turn(1);
        x.swap(0, 1);
        x.choose(2);
        Given.put(x, "\0\0\0");
        x.see();
        Given.put(x, "match num");
        Given.due("bad match", x.match(), NONE);
        Given.due("rows stay", x.has(3), 6);
        Given.due("guards stay", x.has(5), 253);
        Given.due("rule stays", x.has(6), 2);
        Given.due("kept stays", x.has(7), 1);
        Given.due("seen stays", x.has(8), 1);
        Given.due("acts stay", x.has(9), 4);
        Given.due("arms stay", x.arm(0, 0), 1);
        Given.due("letters stay", x.letter(0, 1, 0), 15);
        Given.due("tape gone", x.end(1), false);
        Given.put(x, THREE + "rule 3;");
        Given.due("good match", x.match(), 5);
        Given.due("tape gone", x.end(1), false);
        Given.due("kinds", x.has(0), 0);
        Given.due("rows", x.has(3), 20);
        Given.due("arms", x.has(4), 3);
        Given.due("guards", x.has(5), 255);
        Given.due("rule", x.has(6), 3);
        Given.due("kept", x.has(7), 0);
        Given.due("seen", x.has(8), 0);
        Given.due("acts", x.has(9), 0);
        Given.due("undo", x.undo(), false);
        Given.due("seed", x.has(10), 77);
        Given.due("all sets", x.sets(-1), 256);
        Given.due("refused", x.status(1), 1);
        Given.put(x, THREE + "rule 3;rule 1;rule 0;");
        Given.due("again", x.match(), 7);
        Given.due("latest rule", x.has(6), 0);
    }

    private static void promise6() {
        MatchTrees x = Given.matched(PAIR + "rule 1;");
        int[] due = {2, 4, 2, 6, 5, 255, 1, 0, 0, 0, 1};
        for (int what = 0; what < due.length; what++) {
            Given.due("has " + what, x.has(what), due[what]);
        }
        for (int what : new int[] {-1, 11, LOW, HIGH}) {
            Given.due("has " + what, x.has(what), NONE);
        }
        x.turn(0);
        x.turn(7);
        x.drop(2);
        x.choose(3);
        x.chance(3);
        x.seed(5);
        int[] then = {2, 4, 2, 6, 4, 126, 3, 3, 0, 5, 5};
        for (int what = 0; what < then.length; what++) {
            Given.due("then has " + what, x.has(what), then[what]);
        }
    }

    private static void promise7() {
        MatchTrees x = Given.matched("kind az;con maybez;con q;kind k;match az;");
        int[] az = {1, 26, 0, 0, 0, 0};
        int[] maybez = {13, 1, 25, 2, 5, 26};
        for (int k = 0; k < 6; k++) {
            Given.due("letter of az", x.letter(0, 0, k), az[k]);
            Given.due("letter of maybez", x.letter(1, 0, k), maybez[k]);
        }
        Given.due("letter of k", x.letter(0, 1, 0), 11);
        Given.due("letter of q", x.letter(1, 1, 0), 17);
        Given.due("letter 6", x.letter(1, 0, 6), NONE);
        Given.due("letter -1", x.letter(1, 0, -1), NONE);
        Given.due("kind 2", x.letter(0, 2, 0), NONE);
        Given.due("con 2", x.letter(1, 2, 0), NONE);
        Given.due("con -1", x.letter(1, -1, 0), NONE);
        Given.due("neither", x.letter(2, 0, 0), NONE);
        Given.due("neither", x.letter(-1, 0, 0), NONE);
        Given.due("wild", x.letter(HIGH, LOW, HIGH), NONE);
        Given.due("without a match", new MatchTrees().letter(0, 0, 0), NONE);
    }

    private static void promise8() {
        MatchTrees x = Given.matched("kind a;con p;con q num;kind b;con r a a;con s;con u num;kind c;match b;");
        Given.due("num", x.values(NONE), 20);
        Given.due("a", x.values(0), 21);
        Given.due("b", x.values(1), 462);
        Given.due("c has no constructor", x.values(2), 0);
        Given.due("none such", x.values(3), NONE);
        Given.due("none such", x.values(-2), NONE);
        Given.due("none such", x.values(HIGH), NONE);
        Given.due("without a match", new MatchTrees().values(NONE), NONE);
    }

    private static void promise9() {
        MatchTrees x = Given.matched("match num;arm 0 to 4 when 1;arm 3 to 9;arm 5 when 1;arm 0 to 4;arm 0 or 1;");
        int[][] due = {{0, 1, 1, 5, 5}, {1, NONE, 1, 7, 5}, {2, 1, 0, 1, 0}, {3, NONE, 1, 5, 0}, {4, NONE, 0, 2, 0}};
        rowsOfArms("first", x, due);
        x.turn(1);
        int[][] off = {{0, 1, 1, 5, 0}, {1, NONE, 1, 7, 7}, {2, 1, 0, 1, 0}, {3, NONE, 1, 5, 3}, {4, NONE, 0, 2, 0}};
        rowsOfArms("off", x, off);
        x.swap(1, 4);
        int[][] swapped = {{0, 1, 1, 5, 0}, {4, NONE, 1, 2, 2}, {2, 1, 1, 1, 0}, {3, NONE, 1, 5, 3}, {1, NONE, 1, 7, 5}};
        rowsOfArms("swapped", x, swapped);
        x.drop(0);
        Given.due("place 0", x.arm(0, 0), 4);
        for (int place : new int[] {-1, 4, LOW, HIGH}) {
            Given.due("arm at " + place, x.arm(place, 0), NONE);
        }
        for (int what : new int[] {-1, 5, LOW, HIGH}) {
            Given.due("arm, " + what, x.arm(0, what), NONE);
        }
        Given.due("without a match", new MatchTrees().arm(0, 1), NONE);
    }

    private static void rowsOfArms(String name, MatchTrees x, int[][] due) {
        for (int place = 0; place < due.length; place++) {
            for (int what = 0; what < 5; what++) {
                Given.due(name + ": arm " + place + ", " + what, x.arm(place, what), due[place][what]);
            }
        }
    }

    private static void promise10() {
        MatchTrees x = Given.matched("kind a;con p;con q num num;match num a;"
            + "arm 0 to 2 or 7 or 19,q(0 or 5 to 6,18 to 19) or p;arm any,q(any,3);");
        String fit = "";
        for (int v = 0; v < 20; v++) {
            fit += x.fits(0, 0, v);
        }
        Given.same("numbers that fit", fit, "11100001000000000001");
        int[] fitting = new int[401];
        fitting[0] = 1;
        for (int a : new int[] {0, 5, 6}) {
            fitting[1 + 20 * a + 18] = 1;
            fitting[1 + 20 * a + 19] = 1;
        }
        for (int v = 0; v < 401; v++) {
            Given.due("value " + v, x.fits(0, 1, v), fitting[v]);
            Given.due("of arm 1 value " + v, x.fits(1, 1, v), v > 0 && (v - 1) % 20 == 3 ? 1 : 0);
        }
        int[][] none = {{0, 0, 20}, {0, 1, 401}, {0, 0, -1}, {0, 2, 0}, {0, -1, 0}, {2, 0, 0}, {-1, 0, 0},
            {HIGH, HIGH, HIGH}, {LOW, LOW, LOW}};
        for (int[] a : none) {
            Given.due("fits " + a[0] + " " + a[1] + " " + a[2], x.fits(a[0], a[1], a[2]), NONE);
        }
        x.swap(0, 1);
        Given.due("swapped", x.fits(0, 0, 5), 1);
        Given.due("without a match", new MatchTrees().fits(0, 0, 0), NONE);
        for (String text : new String[] {"match num num;", "match num;", "match num;arm any;"}) {
            Given.put(x, text);
            x.match();
        }
        Given.due("a column of an older match", x.fits(0, 1, 0), NONE);
    }

    private static void promise11() {
        MatchTrees x = Given.matched("match num num;arm 0 to 5,any;arm 2 to 3,7;arm 2,any;arm 5 or 0 to 4,0 to 19;");
        Given.due("holds 0 1", x.holds(0, 1), 1);
        Given.due("holds 1 0", x.holds(1, 0), 0);
        Given.due("holds 0 2", x.holds(0, 2), 1);
        Given.due("holds 1 2", x.holds(1, 2), 0);
        Given.due("holds 2 1", x.holds(2, 1), 0);
        Given.due("holds 0 3", x.holds(0, 3), 1);
        Given.due("holds 3 0", x.holds(3, 0), 1);
        Given.due("holds 2 2", x.holds(2, 2), 1);
        x.drop(1);
        Given.due("by places", x.holds(0, 1), 1);
        Given.due("by places", x.holds(1, 0), 0);
        int[][] none = {{0, 3}, {3, 0}, {-1, 0}, {0, -1}, {HIGH, LOW}};
        for (int[] a : none) {
            Given.due("holds " + a[0] + " " + a[1], x.holds(a[0], a[1]), NONE);
        }
        Given.due("without a match", new MatchTrees().holds(0, 0), NONE);
    }

    private static void promise12() {
        MatchTrees x = Given.matched(PAIR);
        Given.due("missing", x.missing(NONE), 1);
        Given.due("missing 0", x.missing(0), 4);
        Given.due("missing 1", x.missing(1), NONE);
        x.turn(2);
        Given.due("whatever guards", x.missing(NONE), 1);
        x.drop(0);
        Given.due("missing", x.missing(NONE), 3);
        Given.due("missing 0", x.missing(0), 0);
        Given.due("missing 1", x.missing(1), 1);
        Given.due("missing 2", x.missing(2), 4);
        for (int k : new int[] {3, -2, LOW, HIGH}) {
            Given.due("missing " + k, x.missing(k), NONE);
        }
        Given.due("nothing missing", Given.matched(THREE).missing(NONE), 0);
        Given.due("without a match", new MatchTrees().missing(NONE), NONE);
    }

    private static void promise13() {
        MatchTrees x = Given.matched(PAIR);
        taken("at first", x, 0, 0, 1, 2, 1, 2);
        x.turn(2);
        taken("guard 2 off", x, 0, 0, 3, 2, NONE, 2);
        x.drop(0);
        taken("without the first", x, NONE, 3, 2, 1, NONE, 1);
        for (int row : new int[] {-1, 6, LOW, HIGH}) {
            Given.due("taken " + row, x.taken(row), NONE);
        }
        Given.due("without a match", new MatchTrees().taken(0), NONE);
    }

    private static void taken(String name, MatchTrees x, int... due) {
        for (int row = 0; row < due.length; row++) {
            Given.due(name + ": taken " + row, x.taken(row), due[row]);
        }
    }

    private static void promises15And16() {
        MatchTrees x = new MatchTrees();
        Given.due("octet ahead of any", x.octet(0), NONE);
        Given.due("text without a match", x.text(0), NONE);
        Given.put(x, "kind a;con p;con q num;kind bee;con rest a;con s a num;match bee num;");
        x.match();
        text(x, 0, "rest(p),0");
        text(x, 19, "rest(p),19");
        text(x, 20, "rest(q(0)),0");
        text(x, 21 * 20 + 7, "s(p,0),7");
        text(x, (21 + 20 + 3) * 20, "s(q(0),3),0");
        text(x, 8819, "s(q(19),19),19");
        Given.due("text none such", x.text(8820), NONE);
        Given.due("octet stays", x.octet(0), 's');
        Given.due("text -1", x.text(-1), NONE);
        Given.due("text high", x.text(HIGH), NONE);
        Given.due("octet 13", x.octet(13), '9');
        Given.due("octet 14", x.octet(14), NONE);
        Given.due("octet -1", x.octet(-1), NONE);
        Given.due("octet high", x.octet(HIGH), NONE);
        Given.due("octet low", x.octet(LOW), NONE);
        x.image();
        Given.due("octet of the image", x.octet(1), 255);
        for (int row = 0; row < 8820; row += 97) {
            int length = x.text(row);
            Given.put(x, Given.octets(x, length));
            Given.due("row of its text", x.row(), row);
        }
        longTexts();
    }

    private static void longTexts() {
        MatchTrees x = Given.matched("kind aaaaaa;con bbbbbb;kind cccccc;con dddddd aaaaaa aaaaaa;"
            + "kind eeeeee;con ffffff cccccc cccccc;kind gggggg;con hhhhhh eeeeee eeeeee;"
            + "match gggggg gggggg gggggg gggggg;");
        String inner = "dddddd(bbbbbb,bbbbbb)";
        String middle = "ffffff(" + inner + "," + inner + ")";
        String outer = "hhhhhh(" + middle + "," + middle + ")";
        text(x, 0, outer + "," + outer + "," + outer + "," + outer);
    }

    private static void text(MatchTrees x, int row, String due) {
        int length = x.text(row);
        Given.due("length of row " + row, length, due.length());
        Given.same("text of row " + row, Given.octets(x, length), due);
    }

    private static void promises17And18() {
        // Column 0 has two branches, with 3 and 2 arms left; column 1 four, with 2 at the most.
        MatchTrees x = Given.matched("match num num num;arm 0 to 9,1,any;arm any,1 to 3,any when 0;arm any,4,2;");
        trees("rule 0", x, 0, 16, 9, 3, 8000 + 8000 + 400, 0);
        trees("rule 1", x, 1, 11, 10, 2, 8000 + 400 + 400, 1);
        trees("rule 2", x, 2, 16, 9, 3, 8000 + 8000 + 400, 0);
        trees("rule 3", x, 3, 11, 10, 2, 8000 + 400 + 400, 1);
        for (int what : new int[] {-1, 4, LOW, HIGH}) {
            Given.due("tree, " + what, x.tree(0, what), NONE);
        }
        for (int rule : new int[] {-1, 4, LOW, HIGH}) {
            Given.due("tree by " + rule, x.tree(rule, 0), NONE);
            Given.due("first by " + rule, x.first(rule), NONE);
        }
        MatchTrees doors = Given.matched("match num num;arm any,any when 3;arm any,any when 3;arm any,2;budget 1;");
        Given.due("nodes behind doors", doors.tree(0, 0), 5);
        Given.due("asked behind doors", doors.tree(0, 2), 1);
        Given.due("tests ahead of doors", doors.tree(0, 3), 0);
        Given.due("first behind doors", doors.first(0), 1);
        doors.turn(3);
        Given.due("tests behind doors", doors.tree(0, 3), 400);
        Given.due("nodes are whatever the guards", doors.tree(0, 0), 5);
        MatchTrees ends = Given.matched(THREE);
        ends.drop(0);
        ends.drop(0);
        Given.due("an end asks for none", ends.first(0), NONE);
        Given.due("an end alone", ends.tree(2, 0), 1);
        ends.drop(0);
        Given.due("a failure alone", ends.tree(2, 0), 1);
        Given.due("a failure asks for none", ends.first(3), NONE);
        Given.due("without a match", new MatchTrees().tree(0, 0), NONE);
        Given.due("without a match", new MatchTrees().first(0), NONE);
        unlikeNodes();
    }

    private static void trees(String name, MatchTrees x, int rule, int nodes, int unlike, int longest, int tests,
            int first) {
        Given.due(name + " nodes", x.tree(rule, 0), nodes);
        Given.due(name + " unlike", x.tree(rule, 1), unlike);
        Given.due(name + " longest", x.tree(rule, 2), longest);
        Given.due(name + " tests", x.tree(rule, 3), tests);
        Given.due(name + " first", x.first(rule), first);
    }

    private static void unlikeNodes() {
        // Column 0 has branches 1, 2 and the rest; of the first two each goes on with its own arm,
        // and no arm left means failures that differ by the columns left alone.
        MatchTrees x = Given.matched("match num num;arm 1,5;arm 2,5;");
        Given.due("nodes", x.tree(0, 0), 8);
        Given.due("unlike", x.tree(0, 1), 7);
        Given.due("tests", x.tree(0, 3), 400 + 20 + 20);
    }

    private static void promise19() {
        // Branches come by their least value: 0 asks, 1 is a failure, 2 a door, 3 asks, 4 is a
        // failure, 5 an end.
        MatchTrees x = Given.matched("match num num;arm 1,any when 0;arm 1,3;budget 6;");
        scopes(x, 6, 4, 0, 1, 4, 5, 3, 2, 0);
        Given.put(x, "match num num;arm 1,any when 0;arm 1,3;budget 5;");
        x.match();
        scopes(x, 5, 4, 1, 1, 4, 3, 2, 0);
        Given.put(x, "match num num;arm 1,any when 0;arm 1,3;budget 3;");
        x.match();
        scopes(x, 3, 2, 1, 1, 2, 0);
        Given.put(x, "match num;budget 1;");
        x.match();
        scopes(x, 1, 1, 0, 0);
        Given.due("what 4", x.scopes(0, 4, 0), NONE);
        Given.due("what -1", x.scopes(0, -1, 0), NONE);
        Given.due("rule 4", x.scopes(4, 0, 0), NONE);
        Given.due("rule -1", x.scopes(-1, 0, 0), NONE);
        Given.due("k is free", x.scopes(0, 0, HIGH), 1);
        Given.due("wild", x.scopes(HIGH, LOW, LOW), NONE);
        Given.due("without a match", new MatchTrees().scopes(0, 0, 0), NONE);
        budgets();
    }

    /** 401 values of a kind that all are told apart: more nodes than any budget below 1000. */
    private static void budgets() {
        StringBuilder s = new StringBuilder("kind a;con p num num;con q num num;con r num num;match a;");
        for (int bit = 0; bit < 5; bit++) {
            StringBuilder half = new StringBuilder();
            for (int v = 0; v < 20; v++) {
                if ((v >> bit & 1) == 1) {
                    half.append(half.length() > 0 ? " or " : "").append(v);
                }
            }
            s.append("arm p(" + half + ",any);arm p(any," + half + ") or q(" + half + ",any);");
        }
        s.append("arm q(any,1 or 3 or 5 or 7 or 9 or 11);arm q(any,2 or 3 or 6 or 7 or 10 or 11);");
        MatchTrees x = Given.matched(s.toString());
        int nodes = x.tree(0, 0);
        Given.due("more nodes than 300", nodes > 300, true);
        Given.due("300 without", x.scopes(0, 0, 0), 300);
        Given.due("stopped", x.scopes(0, 2, 0), 1);
        Given.due("the last shut", x.scopes(0, 3, 299), 0);
        Given.due("none behind", x.scopes(0, 3, 300), NONE);
        Given.put(x, s + "budget 7;budget " + nodes + ";");
        x.match();
        Given.due("all opened", x.scopes(0, 0, 0), nodes);
        Given.due("not stopped", x.scopes(0, 2, 0), 0);
        Given.put(x, s + "budget " + (nodes - 1) + ";");
        x.match();
        Given.due("one less", x.scopes(0, 0, 0), nodes - 1);
        Given.due("stopped", x.scopes(0, 2, 0), 1);
        Given.due("whatever the budget", x.tree(0, 0), nodes);
    }

    private static void scopes(MatchTrees x, int opened, int most, int stopped, int... shut) {
        Given.due("opened", x.scopes(0, 0, 0), opened);
        Given.due("most open", x.scopes(0, 1, 0), most);
        Given.due("stopped", x.scopes(0, 2, 0), stopped);
        for (int k = 0; k < shut.length; k++) {
            Given.due("shut as " + k, x.scopes(0, 3, k), shut[k]);
        }
        Given.due("shut behind", x.scopes(0, 3, shut.length), NONE);
        Given.due("shut ahead", x.scopes(0, 3, -1), NONE);
    }

    public static void main(String[] args) {
        promise1();
        promise2();
        promise3();
        promise4();
        promise6();
        promise7();
        promise8();
        promise9();
        promise10();
        promise11();
        promise12();
        promise13();
        promises15And16();
        promises17And18();
        promise19();
        Given.finish();
    }
}
