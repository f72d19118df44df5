/** Promises 4, 5 and 14: where texts have their faults. */
public final class FaultTest {
    private static final String AHEAD = "kind b;con t;con f;kind o;con n;con s b;match o b num;";

    private static void bad(String text, int fault, int place) {
        MatchTrees x = new MatchTrees();
        Given.put(x, text);
        Given.due("match " + text, x.match(), MatchTrees.NONE);
        Given.due("fault of " + text, x.fault(0), fault);
        Given.due("place in " + text, x.fault(1), place);
        Given.due("refused " + text, x.status(1), 1);
        Given.due("columns behind " + text, x.has(2), 0);
    }

    private static void badBehind(String text, int fault, int place) {
        bad(AHEAD + text, fault, AHEAD.length() + place);
    }

    private static void good(String text, int statements) {
        MatchTrees x = new MatchTrees();
        Given.put(x, text);
        Given.due("match " + text, x.match(), statements);
        Given.due("fault of " + text, x.fault(0), 0);
        Given.due("place in " + text, x.fault(1), MatchTrees.NONE);
    }

    private static void badRow(String text, int fault, int place) {
        MatchTrees x = Given.matched(AHEAD);
        Given.put(x, text);
        Given.due("row " + text, x.row(), MatchTrees.NONE);
        Given.due("fault of row " + text, x.fault(0), fault);
        Given.due("place in row " + text, x.fault(1), place);
        Given.due("refused row " + text, x.status(1), 1);
    }

    private static void goodRow(String text, int row) {
        MatchTrees x = Given.matched(AHEAD);
        Given.put(x, text);
        Given.due("row " + text, x.row(), row);
        Given.due("fault of row " + text, x.fault(0), 0);
        Given.due("place in row " + text, x.fault(1), MatchTrees.NONE);
    }

    private static void syntax() {
        bad("", 1, 0);
        bad("  \n ", 1, 4);
        bad("kind a;con x;", 1, 13);
        bad("rule 1; ", 1, 8);
        bad("kind", 1, 4);
        bad("kind a", 1, 6);
        bad("kind a  ", 1, 8);
        bad("kin a;", 1, 0);
        bad("a;", 1, 0);
        bad(";", 1, 0);
        bad("7;", 1, 0);
        bad("kind 7;", 1, 5);
        bad("kind aB;", 1, 6);
        bad("kind a#;", 1, 6);
        bad("kind a\t;", 1, 6);
        bad("kind or;", 1, 5);
        bad("kind any;", 1, 5);
        bad("kind a;con to;", 1, 11);
        bad("kind a;con x any;", 1, 13);
        bad("match;", 1, 5);
        bad("match any;", 1, 6);
        bad("match num,num;", 1, 9);
        bad("rule;", 1, 4);
        bad("rule x;", 1, 5);
        bad("rule 1 2;", 1, 7);
        bad("rule1;", 1, 4);
        bad("budget 5x;", 1, 8);
        bad("match num;arm 1to 2;", 1, 15);
        bad("match num;arm 1 to2;", 1, 18);
        bad("match num;arm 1 when7;", 1, 20);
        bad("con x;", 1, 0);
        bad("arm 1;", 1, 0);
        bad("kind a;con x;arm x;", 1, 13);
        badBehind("kind z;", 1, 0);
        badBehind("con z;", 1, 0);
        badBehind("kind kind;", 1, 0);
    }

    private static void longOnes() {
        bad("kind abcdefg;", 1, 11);
        bad("kindkindkind;", 1, 6);
        bad("rule abcdefg;", 1, 11);
        bad("rule 00001;", 1, 9);
        bad("rule 1 abcdefgh;", 1, 13);
        bad("12345;", 1, 4);
        bad("kind a;con x abcdefg;", 1, 19);
        bad("kind a;con x num num abcdefg;", 1, 27);
        badBehind("arm abcdefg", 1, 10);
        badBehind("arm n,t,12345;", 1, 12);
        good("kind abcdef;con ghijkl;match abcdef;arm ghijkl when 0007;rule 0003;budget 0999;", 6);
    }

    private static void patterns() {
        badBehind("arm ;", 1, 4);
        badBehind("arm n;", 1, 5);
        badBehind("arm n,t;", 1, 7);
        badBehind("arm n,t,1,2;", 1, 9);
        badBehind("arm n(t),t,1;", 1, 5);
        badBehind("arm s,t,1;", 1, 5);
        badBehind("arm s(t,t),t,1;", 1, 7);
        badBehind("arm s(),t,1;", 1, 6);
        badBehind("arm (n),t,1;", 1, 4);
        badBehind("arm 1,t,1;", 1, 4);
        badBehind("arm n,t,t;", 1, 8);
        badBehind("arm n or,t,1;", 1, 8);
        badBehind("arm n or or,t,1;", 1, 9);
        badBehind("arm n to s,t,1;", 1, 6);
        badBehind("arm n,t,1 to;", 1, 12);
        badBehind("arm n,t,1 to 2 to 3;", 1, 15);
        badBehind("arm n,t,any to 3;", 1, 12);
        badBehind("arm num,t,1;", 1, 4);
        badBehind("arm n,t,1 when;", 1, 14);
        badBehind("arm n,t,1 when any;", 1, 15);
        badBehind("arm q,t,1;", 3, 4);
        badBehind("arm t,t,1;", 3, 4);
        badBehind("arm o,t,1;", 3, 4);
        badBehind("arm s(n),t,1;", 3, 6);
        badBehind("arm s(t or q),t,1;", 3, 11);
        badBehind("arm n,t,20;", 4, 8);
        badBehind("arm n,t,9999 to 1;", 4, 8);
        badBehind("arm n,t,5 to 4;", 4, 13);
        badBehind("arm n,t,5 to 20;", 4, 13);
        badBehind("arm n,t,1 or 21;", 4, 13);
        badBehind("arm n,t,1 when 8;", 4, 15);
        good(AHEAD + "arm any or n,f or any,0 to 0 or 19 or any when 7;", 8);
        good("\n match\nnum num ;arm 1\nto 2 or 3,any when\n0 ; ", 2);
    }

    private static void namesAndNumbers() {
        bad("kind a;kind a;", 2, 12);
        bad("kind a;con a;", 2, 11);
        bad("kind a;con x;con x;", 2, 17);
        bad("kind a;con x;kind x;", 2, 18);
        bad("match a;", 3, 6);
        bad("kind a;match a;", 3, 13);
        bad("kind a;con x;match x;", 3, 19);
        bad("kind a;con x a;", 3, 13);
        bad("kind a;con x x;", 3, 13);
        bad("kind a;con x;con y a;", 3, 19);
        bad("kind a;kind b;con x a;", 3, 20);
        bad("rule 4;", 4, 5);
        bad("rule 1;rule 9999;", 4, 12);
        bad("budget 0;", 4, 7);
        bad("budget 1000;", 4, 7);
        bad("match num num num num;", 4, 18);
        good("kind a;match num;", 2);
        good("kind a;con x;kind b;con y a a;kind c;con z b b;match a b c num;", 7);
    }

    private static void tooMany() {
        bad("kind a;kind b;kind c;kind d;kind e;", 6, 28);
        bad("kind a;con b;con c;con d;con e;con f;con g;con h;", 6, 43);
        bad("kind a;con x num num num;", 6, 21);
        bad("kind a;con x num num q;", 6, 21);
        bad("kind a;con x num num a;", 6, 21);
        bad("match num;match num;", 6, 10);
        bad("kind a;con x;match a a a a a;", 6, 27);
        bad("kind a;con x;match a a a a q;", 6, 27);
        bad("kind a;con x;match a a a a any;", 1, 27);
        bad("match num;" + "arm 1;".repeat(13), 6, 82);
        good("match num;" + "arm 1;".repeat(12), 13);
        good("match num;" + "rule 1;".repeat(59) + " \n", 60);
        bad("match num;" + "rule 1;".repeat(59) + " rule 1;", 6, 424);
        bad("match num;" + "rule 1;".repeat(59) + "abcdefg", 6, 423);
        bad("match num;" + "rule 1;".repeat(59) + "match num;", 6, 423);
        bad("rule 1;".repeat(60) + "match num;", 6, 420);
    }

    private static void sizes() {
        String full = "kind a;" + "con u num num;con v num num;con w num num;con x num num;con y num num;";
        good(full + "match a;", 7);
        good(full + "con z;match a;", 8);
        bad(full + "con z num;", 4, full.length() + 6);
        String most = "kind a;con u num num;con v num num;con w num num;con x num num;con y num;";
        good(most + "con z num;match a;", 8);
        bad(most + "con z num num;", 4, most.length() + 10);
        String past = "kind a;con u;con v num num;con w num num;con x num num;con y num num;con z num num;";
        bad(past, 4, past.length() - 4);
        good("kind a;con x num;kind b;con y num num;con z a a;match b num;", 6);
        String ten = "kind a;con p;con q;con r;con s;con t;kind b;con u a;con v a;";
        good(ten + "match num num b a;", 10);
        bad(ten + "con w;match num num b a;", 4, ten.length() + 22);
    }

    private static void rows() {
        goodRow("n,t,0", 0);
        goodRow(" s ( f )\n, f , 0019 ", 119);
        badRow("", 1, 0);
        badRow("  ", 1, 2);
        badRow("n", 1, 1);
        badRow("n,t", 1, 3);
        badRow("n,t,", 1, 4);
        badRow("n,t,1,", 1, 5);
        badRow("n,t,1;", 1, 5);
        badRow("n,t,any", 1, 4);
        badRow("n,any,1", 1, 2);
        badRow("n,1,1", 1, 2);
        badRow("n,t,t", 1, 4);
        badRow("n(t),t,1", 1, 1);
        badRow("s,t,1", 1, 1);
        badRow("s(t,t),t,1", 1, 3);
        badRow("s(abcdefg),t,1", 1, 8);
        badRow("n,t,12345", 1, 8);
        badRow("n,t,1 2", 1, 6);
        badRow("n,t,1x", 1, 5);
        badRow("q,t,1", 3, 0);
        badRow("t,t,1", 3, 0);
        badRow("s(n),t,1", 3, 2);
        badRow("n,t,20", 4, 4);
    }

    private static void rowsOfTwoFields() {
        String ahead = "kind a;con p num num;con q;match a;";
        String[] texts = {"p(1)", "p(1;2)", "p(1 2)", "p(,2)", "p(1,)", "p(1,2", "p(1,2,3)", "p1,2)", "q()", "p(20,1)",
            "p(1,20)", "p(q,1)", "p(1,2)q"};
        int[] faults = {1, 1, 1, 1, 1, 1, 1, 1, 1, 4, 4, 1, 1};
        int[] places = {3, 3, 4, 2, 4, 5, 5, 1, 1, 2, 4, 2, 6};
        MatchTrees x = Given.matched(ahead);
        for (int i = 0; i < texts.length; i++) {
            Given.put(x, texts[i]);
            Given.due("row " + texts[i], x.row(), MatchTrees.NONE);
            Given.due("fault of row " + texts[i], x.fault(0), faults[i]);
            Given.due("place in row " + texts[i], x.fault(1), places[i]);
        }
        Given.put(x, "p(19,7)");
        Given.due("row", x.row(), 387);
        Given.put(x, "q");
        Given.due("row", x.row(), 400);
    }

    private static void latest() {
        MatchTrees x = new MatchTrees();
        Given.due("fault ahead of any", x.fault(0), 0);
        Given.due("place ahead of any", x.fault(1), MatchTrees.NONE);
        Given.due("fault of 2", x.fault(2), MatchTrees.NONE);
        Given.due("fault of -1", x.fault(-1), MatchTrees.NONE);
        Given.put(x, "1");
        Given.due("row without a match", x.row(), MatchTrees.NONE);
        Given.due("its fault", x.fault(0), 1);
        Given.due("its place", x.fault(1), 0);
        Given.put(x, "match num;");
        Given.due("match", x.match(), 1);
        Given.due("its fault", x.fault(0), 0);
        Given.put(x, "20");
        Given.due("row", x.row(), MatchTrees.NONE);
        Given.due("its fault", x.fault(0), 4);
        Given.due("tape gone", x.end(1), false);
        Given.put(x, "19");
        Given.due("row", x.row(), 19);
        Given.due("its fault", x.fault(0), 0);
        Given.due("tape gone", x.end(1), false);
    }

    public static void main(String[] args) {
        syntax();
        longOnes();
        patterns();
        namesAndNumbers();
        tooMany();
        sizes();
        rows();
        rowsOfTwoFields();
        latest();
        Given.finish();
    }
}
