/** Terms I, promises 4, 5 and 14: one test for each sentence that names a bound of a text. */
public final class BoundTextTest {
    private static final int NONE = Given.NONE;
    private static final String OWN = "kind con match arm when rule budget num any or to";
    // 2000 values; 7 statements with a match.
    private static final String FULL = "kind a;con u num num;con v num num;con w num num;con x num num;con y num num;";

    private static void statements() {
        Given.test("{ STATEMENT ; } (60 at most)", () -> {
            Given.good("match num;" + "rule 1;".repeat(59), 60);
            Given.good("rule 1;".repeat(59) + "match num;\n ", 60);
        });
        Given.test("6 the 61st STATEMENT (whatever it is), at its first byte", () -> {
            String sixty = "match num;" + "rule 1;".repeat(59);
            String[] more = {"rule 1;", "match num;", "kind a;", "con a;", "arm 1;", "arm", "x", "abcdefg", "12345",
                ";", "#", "(", "\0"};
            for (String s : more) {
                Given.bad(sixty + s, 6, sixty.length());
                Given.bad(sixty + "\n " + s, 6, sixty.length() + 2);
            }
            Given.bad("rule 1;".repeat(60) + "match num;", 6, 420);
        });
        Given.test("1 a text without a STATEMENT has FAULT 1 at its length", () -> {
            Given.bad("", 1, 0);
            Given.bad("\n  \n", 1, 4);
        });
        Given.test("a text without match has FAULT 1 at its length", () -> {
            Given.bad("rule 1;", 1, 7);
            Given.bad("kind a;con x;budget 3; \n", 1, 24);
            Given.bad("rule 1;".repeat(60), 1, 420);
        });
        Given.test("kind NAME (4 KINDS); 6 one too many, at its first byte", () -> {
            MatchTrees x = Given.good("kind a;kind b;kind c;kind d;match num;", 5);
            Given.due("kinds", x.has(0), 4);
            Given.bad("kind a;kind b;kind c;kind d;\nkind e;match num;", 6, 29);
            Given.bad("kind a;kind b;kind c;kind d;kind a;", 6, 28);
        });
        Given.test("6 CONS of a KIND; 6 one too many, at its first byte", () -> {
            String six = "kind a;con b;con c;con d;con e;con f;con g;";
            Given.good(six + "match a;", 8);
            Given.bad(six + " con h;", 6, six.length() + 1);
            MatchTrees x = Given.good(six + "kind h;con i;con j;con k;con l;con m;con n;kind o;con p;con q;con r;con s;"
                + "con t;con u;kind v;con w;con x;con y;con z;con aa;con bb;match a h o v;", 29);
            Given.due("24 cons", x.has(1), 24);
            Given.due("letter of the last", x.letter(1, 23, 1), 2);
            Given.due("rows", x.has(3), 1296);
        });
        Given.test("match (1 .. 4 COLUMNS)", () -> {
            Given.bad("match;", 1, 5);
            Given.bad("match ;", 1, 6);
            Given.due("one", Given.good("match num;", 1).has(2), 1);
            Given.due("four", Given.good("kind a;con x;match a num a num;", 3).has(2), 4);
        });
        Given.test("6 a 5th COLUMN, whatever NAME or num, too: at its first byte", () -> {
            for (String fifth : new String[] {"a", "num", "x", "b", "qqqqqq"}) {
                Given.bad("kind a;con x;kind b;match a a a a\n" + fifth + ";", 6, 34);
            }
            Given.bad("kind a;con x;match a a a a or;", 1, 27);
            Given.bad("kind a;con x;match a a a a 7;", 1, 27);
        });
        Given.test("match (one); 6 a second match, at its first byte", () -> {
            Given.bad("match num; match num;", 6, 11);
            Given.bad("match num;match", 6, 10);
            Given.bad("match num;arm 3;match q;", 6, 16);
        });
        Given.test("12 ARMS; 6 one too many, at its first byte", () -> {
            Given.due("arms", Given.good("match num;" + "arm 1;".repeat(12), 13).has(4), 12);
            Given.bad("match num;" + "arm 1;".repeat(12) + "\narm 1;", 6, 83);
            Given.bad("match num;" + "arm 1;".repeat(12) + "arm zz;", 6, 82);
        });
        Given.test("its FIELDS, 0 .. 2", () -> {
            Given.due("none", Given.good("kind a;con x;match a;", 3).values(0), 1);
            Given.due("one", Given.good("kind a;con x num;match a;", 3).values(0), 20);
            Given.due("two", Given.good("kind a;con x num num;match a;", 3).values(0), 400);
        });
        Given.test("6 a 3rd FIELD, whatever NAME or num, too: at its first byte", () -> {
            for (String third : new String[] {"num", "a", "b", "x", "z", "qqqqqq"}) {
                Given.bad("kind a;con x;kind b;con z a a\n" + third + ";match num;", 6, 30);
            }
            Given.bad("kind a;con x num num any;", 1, 21);
            Given.bad("kind a;con x num num 7;", 1, 21);
        });
    }

    private static void places() {
        Given.test("KINDS from then on no more; 1 kind or con behind match: at that word", () -> {
            Given.bad("match num; kind a;", 1, 11);
            Given.bad("kind a;match num; con x;", 1, 18);
            Given.bad("kind a;kind b;kind c;kind d;match num;kind e;", 1, 38);
            Given.bad("match num;con x;", 1, 10);
        });
        Given.test("1 arm ahead of match: at that word", () -> {
            Given.bad("arm 1;match num;", 1, 0);
            Given.bad("kind a;con x; arm x;", 1, 14);
        });
        Given.test("1 con without a KIND: at that word", () -> {
            Given.bad(" con x;", 1, 1);
            Given.bad("rule 1;con x;", 1, 7);
        });
        Given.test("arm PATTERN { , PATTERN }: one for each COLUMN", () -> {
            Given.good("match num num;arm 1,2;", 2);
            Given.bad("match num num;arm 1;", 1, 19);
            Given.bad("match num num;arm 1 when 2;", 1, 20);
            Given.bad("match num num;arm 1,2,3;", 1, 21);
            Given.bad("match num num;arm;", 1, 17);
            Given.bad("match num num;arm ,2;", 1, 18);
            Given.bad("match num num;arm 1,;", 1, 20);
        });
        Given.test("KIND: num, or a NAME of a KIND that has a CON; 3 of con, match: a KIND without a CON, too", () -> {
            Given.bad("match q;", 3, 6);
            Given.bad("kind a;match a;", 3, 13);
            Given.bad("kind a;con x;match x;", 3, 19);
            Given.bad("kind a;con x;match a q;", 3, 21);
            Given.bad("kind a;kind b;con x a;", 3, 20);
            Given.bad("kind a;con x q;", 3, 13);
            Given.bad("kind a;con x;kind b;con y x;", 3, 26);
            Given.bad("kind a;con x num q;", 3, 17);
            Given.good("kind a;kind b;con x;match num b;", 4);
        });
        Given.test("its FIELDS are of KINDS told ahead of that; 3 the latest KIND in con, too", () -> {
            Given.bad("kind a;con x a;", 3, 13);
            Given.bad("kind a;con x;con y a;", 3, 19);
            Given.bad("kind a;con x;con y num a;", 3, 23);
            Given.bad("kind a;con x b;kind b;con y;", 3, 13);
            Given.good("kind a;con x;kind b;con y a;kind c;con z a b;match c;", 7);
        });
        Given.test("of another KIND: a NAME of a CON of it; 3 a NAME that is none", () -> {
            String ahead = "kind b;con t;con f;kind o;con n;con s b;match o b;";
            int at = ahead.length();
            Given.good(ahead + "arm s(t),f;", 8);
            Given.bad(ahead + "arm t,f;", 3, at + 4);
            Given.bad(ahead + "arm o,f;", 3, at + 4);
            Given.bad(ahead + "arm n,n;", 3, at + 6);
            Given.bad(ahead + "arm s(n),f;", 3, at + 6);
            Given.bad(ahead + "arm s(t or zz),f;", 3, at + 11);
        });
        Given.test("if it has FIELDS, ( PATTERN { , PATTERN } ), one for each", () -> {
            String ahead = "kind b;con t;con f;kind o;con n;con s b;con p b num;match o;";
            int at = ahead.length();
            Given.good(ahead + "arm n or s(t or f) or p(any,3 or 5 to 6);", 9);
            Given.bad(ahead + "arm n();", 1, at + 5);
            Given.bad(ahead + "arm s;", 1, at + 5);
            Given.bad(ahead + "arm s();", 1, at + 6);
            Given.bad(ahead + "arm s(t,f);", 1, at + 7);
            Given.bad(ahead + "arm p(t);", 1, at + 7);
            Given.bad(ahead + "arm p(t,1,2);", 1, at + 9);
            Given.bad(ahead + "arm p(t,);", 1, at + 8);
            Given.bad(ahead + "arm s(t;", 1, at + 7);
            Given.bad(ahead + "arm p(t,20);", 4, at + 8);
            Given.bad(ahead + "arm p(t,1 or 20) or n;", 4, at + 13);
            Given.bad(ahead + "arm p(n,1);", 3, at + 6);
        });
        Given.test("FIELDS of FIELDS, as deep as 4 KINDS and num go", BoundTextTest::deepest);
        Given.test("1 with which no MATCH goes on: a NAME where a NUMBER must be, and the other way round", () -> {
            Given.bad("match num;arm q;", 1, 14);
            Given.bad("kind a;con x;match a;arm 1;", 1, 25);
            Given.bad("match num;arm 1 to q;", 1, 19);
            Given.bad("match num;arm 1 when q;", 1, 21);
            Given.bad("match num;arm any to 3;", 1, 18);
            Given.bad("rule q;", 1, 5);
            Given.bad("budget q;", 1, 7);
            Given.bad("match 7;", 1, 6);
        });
    }

    private static void deepest() {
        MatchTrees x = Given.good("kind a;con p num;kind b;con q a;con qq;kind c;con r b;con rr;kind d;con s c;con ss;"
            + "match d;arm s(r(q(p(3 or 5 to 6))));arm s(r(q(p(19))or qq)or rr)or ss;"
            + "arm s(r(q(p(any))));", 15);
        for (int v = 0; v < 23; v++) {
            Given.due("first fits " + v, x.fits(0, 0, v), v == 3 || v == 5 || v == 6 ? 1 : 0);
            Given.due("second fits " + v, x.fits(1, 0, v), v > 18 ? 1 : 0);
            Given.due("third fits " + v, x.fits(2, 0, v), v < 20 ? 1 : 0);
        }
        Given.goodRow(x, "s(r(q(p(19))))", 19);
        Given.goodRow(x, "s(r(qq))", 20);
        Given.badRow(x, "s(r(q(p(20))))", 4, 8);
        Given.badRow(x, "s(r(q(p(19)))", 1, 13);
        Given.same("text", Given.octets(x, x.text(7)), "s(r(q(p(7))))");
        Given.bad("kind a;con p num;kind b;con q a;match b;arm q(p(1 or 20));", 4, 53);
        String seconds = "kind a;con z;con p;kind b;con q a a;kind c;con r a b;kind d;con s a c;match d;";
        MatchTrees y = Given.good(seconds + "arm s(z or p,r(z,q(p,z or p)));arm s(any,r(any,q(any,p)));", 12);
        for (int v = 0; v < 16; v++) {
            Given.due("first fits " + v, y.fits(0, 0, v), (v & 6) == 2 ? 1 : 0);
            Given.due("second fits " + v, y.fits(1, 0, v), v & 1);
        }
        Given.goodRow(y, "s(z,r(p,q(z,p)))", 5);
        Given.same("text", Given.octets(y, y.text(10)), "s(p,r(z,q(p,z)))");
        Given.bad(seconds + "arm s(z,r(z,q(z,q)));", 3, seconds.length() + 16);
    }

    private static void bytes() {
        Given.test("NAMES: 1 to 6 letters; 1 a 7th letter at itself, whatever may stand there", () -> {
            MatchTrees x = Given.good("kind z;con abcdef;kind uvwxyz;con q z;match uvwxyz;", 5);
            Given.due("one letter", x.letter(0, 0, 1), 0);
            Given.due("the 6th letter", x.letter(1, 0, 5), 6);
            Given.due("the 6th letter", x.letter(0, 1, 5), 26);
            String[] texts = {"", "kind ", "kind a;con ", "kind a;con x ", "kind a;con x num num ", "match ",
                "match num;arm ", "match num;arm 1 ", "match num;arm 1 to ", "match num;arm 1 when ", "match num;rule ",
                "match num;rule 1 ", "kind a;con x;match a;arm "};
            for (String s : texts) {
                Given.bad(s + "abcdefg;", 1, s.length() + 6);
                Given.bad(s + "zzzzzzzzzzzz;", 1, s.length() + 6);
            }
        });
        Given.test("NUMBERS: 1 to 4 digits; 1 a 5th digit at itself, whatever may stand there", () -> {
            MatchTrees x = Given.good("match num;arm 0 to 0019 when 0007;rule 0003;budget 0999;", 4);
            Given.due("guard", x.arm(0, 1), 7);
            Given.due("rule", x.has(6), 3);
            Given.due("fit", x.arm(0, 3), 20);
            String[] texts = {"", "kind ", "kind a;con ", "kind a;con x ", "match ", "match num;arm ",
                "match num;arm 1 ", "match num;arm 1 to ", "match num;arm 1 when ", "match num;rule ",
                "match num;rule 1 ", "budget "};
            for (String s : texts) {
                Given.bad(s + "00001;", 1, s.length() + 4);
                Given.bad(s + "999999999999;", 1, s.length() + 4);
            }
        });
        Given.test("NAMES of letters, NUMBERS of digits; 1 the first byte with which no MATCH goes on", () -> {
            for (int b : new int[] {0, 1, 9, 11, 13, 31, 33, '/', ':', '@', 'A', 'Z', '[', '`', '{', 127, 128, 160, 228,
                255}) {
                Given.bad("kind a" + (char) b + ";", 1, 6);
                Given.bad("match num;rule 1" + (char) b + ";", 1, 16);
                Given.bad("match num;" + (char) b, 1, 10);
            }
            Given.good("kind az;con za;match az;", 3);
            Given.good("match num;arm 0 or 9;", 2);
        });
        Given.test("Blanks (10, 32) are where one likes", () -> {
            Given.good("\n \nkind\na ; con\n\nx\nnum ;match\na\n; arm x ( 3\nto 4 or 5 ) \nwhen\n1;"
                + "rule\n2 ;budget\n9 ;", 6);
            Given.good("kind a;con x num num;match a num;arm x(3 to 4,any)or any,1 or 2 when 1;", 4);
        });
        Given.test("words and numbers side by side need a blank", () -> {
            Given.bad("rule1;", 1, 4);
            Given.bad("rule12345;", 1, 4);
            Given.bad("kind a1;", 1, 6);
            Given.bad("match num;arm 1to 2;", 1, 15);
            Given.bad("match num;arm 1 to2;", 1, 18);
            Given.bad("match num;arm 1or 2;", 1, 15);
            Given.bad("match num;arm 1 when2;", 1, 20);
            Given.bad("match num;budget 12rule 1;", 1, 19);
            Given.bad("kind a;con x1;", 1, 12);
            Given.bad("kind a;con x num1;", 1, 16);
            Given.bad("kind a;con x;kind b;con y a1;", 1, 27);
            Given.bad("match num1;", 1, 9);
            Given.bad("kind a;con x;match a1;", 1, 20);
            Given.bad("kind a;con x;match a;arm x1;", 1, 26);
        });
        Given.test("OWN WORDS, which no NAME is; 1 an OWN WORD where a NAME must be, at that word", () -> {
            for (String own : OWN.split(" ")) {
                Given.bad("kind " + own + ";", 1, 5);
                Given.bad("kind a;con " + own + ";", 1, 11);
                String kind = "kind a;con x;match a;arm ";
                if (!own.equals("any")) {
                    Given.bad(kind + own + ";", 1, kind.length());
                }
                if (!own.equals("num")) {
                    Given.bad("match " + own + ";", 1, 6);
                    Given.bad("kind a;con x " + own + ";", 1, 13);
                }
                String like = own.substring(1);
                Given.good("kind " + like + ";con x" + like + ";match " + like + ";", 3);
            }
        });
        Given.test("1 words whole, at their first byte", () -> {
            Given.bad("kin a;", 1, 0);
            Given.bad("kinds a;", 1, 0);
            Given.bad(" matc", 1, 1);
            Given.bad("match num;arm 1 whe 2;", 1, 16);
            Given.bad("match num;arm 1 o 2;", 1, 16);
        });
        Given.test("1 at the text's length, if it ends too soon", BoundTextTest::endsTooSoon);
    }

    /** Every text that ends behind a token of a match goes on, or is a match. */
    private static void endsTooSoon() {
        String[] tokens = ("kind a ; con x ; con y num ; kind b ; con w a num ; match b num ; "
            + "arm w ( x or y ( 1 to 2 ) , any ) , 3 or 4 when 5 ; rule 1 ; budget 7 ;").split(" ");
        StringBuilder s = new StringBuilder();
        int statements = 0;
        boolean matched = false;
        for (String token : tokens) {
            s.append(token);
            matched |= token.equals("match");
            if (token.equals(";")) {
                statements++;
            }
            if (token.equals(";") && matched) {
                Given.good(s.toString(), statements);
            } else {
                Given.bad(s.toString(), 1, s.length());
                Given.bad(s + " \n ", 1, s.length() + 3);
            }
            s.append(' ');
        }
        Given.due("statements", statements, 9);
    }

    private static void namesAndNumbers() {
        Given.test("unlike ones; 2 a NAME to be given that is there already, at its first byte", () -> {
            Given.bad("kind a;kind a;", 2, 12);
            Given.bad("kind a;con a;", 2, 11);
            Given.bad("kind a;con x;con x;", 2, 17);
            Given.bad("kind a;con x;kind x;", 2, 18);
            Given.bad("kind a;con x;kind b;con x;", 2, 24);
            Given.bad("kind a;con x;kind b;con a;", 2, 24);
            Given.bad("kind abcdef;con abcdef;", 2, 16);
            Given.good("kind ab;con abc;con a;con aab;match ab;", 5);
        });
        Given.test("of num: N (0 .. 19); 4 a NUMBER that can't be, at its first byte", () -> {
            MatchTrees x = Given.good("match num;arm 0;arm 19;", 3);
            Given.due("0 fits 0", x.fits(0, 0, 0), 1);
            Given.due("19 fits 19", x.fits(1, 0, 19), 1);
            Given.bad("match num;arm 20;", 4, 14);
            Given.bad("match num;arm 9999 to 3;", 4, 14);
            Given.bad("match num;arm 1 or 20;", 4, 19);
            Given.bad("kind a;con x num;match a;arm x(20);", 4, 31);
        });
        Given.test("of num: N to N, the second one no less", () -> {
            MatchTrees x = Given.good("match num;arm 7 to 7;arm 0 to 19;arm 18 to 19;", 4);
            Given.due("7 to 7", x.arm(0, 3), 1);
            Given.due("0 to 19", x.arm(1, 3), 20);
            Given.due("18 to 19", x.arm(2, 3), 2);
            Given.bad("match num;arm 7 to 6;", 4, 19);
            Given.bad("match num;arm 19 to 0;", 4, 20);
            Given.bad("match num;arm 19 to 20;", 4, 20);
        });
        Given.test("when N (a GUARD 0 .. 7)", () -> {
            MatchTrees x = Given.good("match num;arm 1 when 0;arm 1 when 7;", 3);
            Given.due("guard 0", x.arm(0, 1), 0);
            Given.due("guard 7", x.arm(1, 1), 7);
            Given.bad("match num;arm 1 when 8;", 4, 21);
        });
        Given.test("rule N (0 .. 3)", () -> {
            for (int rule = 0; rule < 4; rule++) {
                Given.due("rule", Given.good("match num;rule " + rule + ";", 2).has(6), rule);
            }
            Given.bad("match num;rule 4;", 4, 15);
        });
        Given.test("rule: the last one counts, 0 without", () -> {
            Given.due("without", Given.good("match num;", 1).has(6), 0);
            Given.due("last", Given.good("rule 3;match num;rule 1;arm 1;rule 2;", 5).has(6), 2);
            Given.due("last", Given.good("rule 3;match num;rule 0;", 3).has(6), 0);
            MatchTrees x = Given.good("match num;rule 3;", 2);
            Given.put(x, "match num;");
            x.match();
            Given.due("without, behind another match", x.has(6), 0);
        });
        Given.test("budget N (1 .. 999)", () -> {
            Given.due("1", Given.good("match num;arm 1;budget 1;", 3).scopes(0, 0, 0), 1);
            Given.due("999", Given.good("match num;arm 1;budget 999;", 3).scopes(0, 0, 0), 3);
            Given.bad("match num;budget 0;", 4, 17);
            Given.bad("match num;budget 1000;", 4, 17);
        });
        Given.test("budget: the last one counts", () -> {
            Given.due("last", Given.good("budget 1;match num;arm 1;budget 2;", 4).scopes(0, 0, 0), 2);
            Given.due("last", Given.good("budget 2;match num;arm 1;budget 1;", 4).scopes(0, 0, 0), 1);
        });
    }

    private static void sizes() {
        Given.test("4 of con a KIND by which the KIND has more than 2000 VALUES, at its first byte", () -> {
            Given.due("2000", Given.good(FULL + "match a;", 7).values(0), 2000);
            Given.bad(FULL + "con z num;", 4, FULL.length() + 6);
            Given.bad(FULL + "con z num num;", 4, FULL.length() + 6);
            String one = "kind e;con o;";
            Given.bad(one + FULL + "con z e;", 4, one.length() + FULL.length() + 6);
            String five = "kind f;con fa;con fb;con fc;con fd;con fe;kind h;con ha num f;kind k;";
            Given.due("2000 by two", Given.good(five + "con s num h;match k;", 11).values(2), 2000);
            Given.bad(five + "con o;con s num h;", 4, five.length() + 16);
            Given.bad(five + "con o;con s h num;", 4, five.length() + 14);
        });
        Given.test("a CON without FIELDS never is too much", () -> {
            Given.due("2001", Given.good(FULL + "con z;match a;", 8).values(0), 2001);
            String five = "kind f;con fa;con fb;con fc;con fd;con fe;kind h;con ha num f;kind k;con s num h;";
            String six = five + "con sa;con sb;con sc;con sd;con se;";
            MatchTrees x = Given.good(six + "match k;arm se;arm any;", 18);
            Given.due("2005", x.values(2), 2005);
            Given.due("the last fits", x.fits(0, 0, 2004), 1);
            Given.due("the last but one", x.fits(0, 0, 2003), 0);
            Given.due("behind", x.fits(0, 0, 2005), NONE);
            Given.bad(six + "con t;", 6, six.length());
            Given.bad(FULL + "con z;match a num;", 4, FULL.length() + 14);
        });
        Given.test("4 of match a KIND by which there are more than 20000 ROWS, at its first byte", () -> {
            String ahead = "kind five;con fa;con fb;con fc;con fd;con fe;kind four;con ga;con gb;con gc;con gd;"
                + "kind h;con ha num five;con hb five;con hc five;con hd;con he;con hf;"
                + "kind i;con ia h;con ib num;con ic num;con id num;con ie four;";
            MatchTrees x = Given.good(ahead + "match h;", 25);
            Given.due("values", x.values(2), 113);
            Given.due("values", x.values(3), 177);
            Given.bad(ahead + "match h i;", 4, ahead.length() + 8);
            Given.bad(ahead + "match i h;", 4, ahead.length() + 8);
            String even = "kind e;con o;kind five;con fa;con fb;con fc;con fd;con fe;kind j;con ja five;con jb five;"
                + "kind k;con ka num five;";
            Given.due("20000", Given.good(even + "match num j k;", 14).has(3), 20000);
            Given.due("20000 still", Given.good(even + "match num j k e;", 14).has(3), 20000);
            Given.bad(even + "match num j k num;", 4, even.length() + 14);
            Given.bad("match num num num num;", 4, 18);
        });
    }

    private static void firstFault() {
        Given.test("FAULTS, the first along the text", () -> {
            Given.bad("rule 9;abcdefg", 4, 5);
            Given.bad("kind a;kind a;rule 9;", 2, 12);
            Given.bad("match q;match num;", 3, 6);
            Given.bad("match num;arm 20 to #", 4, 14);
            Given.bad("kind #;con x;", 1, 5);
            Given.bad("match num;match num;#", 6, 10);
        });
        Given.test("FAULT ahead of any match() or row(): 0, its place NONE", () -> {
            MatchTrees x = new MatchTrees();
            Given.due("fault", x.fault(0), 0);
            Given.due("place", x.fault(1), NONE);
        });
        Given.test("fault: of the latest match() or row()", () -> {
            MatchTrees x = new MatchTrees();
            Given.bad(x, "rule 9;", 4, 5);
            Given.put(x, "match num;");
            x.match();
            Given.due("fault without", x.fault(0), 0);
            Given.due("place without", x.fault(1), NONE);
            Given.badRow(x, "q", 1, 0);
            x.see();
            x.text(99);
            Given.due("fault stays", x.fault(0), 1);
            Given.bad(x, "match q;", 3, 6);
            Given.goodRow(x, "3", 3);
        });
        Given.test("fault: NONE for another what", () -> {
            MatchTrees x = new MatchTrees();
            x.match();
            for (int what : new int[] {-1, 2, 3, Given.LOW, Given.HIGH}) {
                Given.due("fault " + what, x.fault(what), NONE);
            }
        });
    }

    private static void matches() {
        Given.test("match: The tape goes, refused or not", () -> {
            MatchTrees x = new MatchTrees();
            Given.put(x, "match num");
            x.match();
            Given.due("refused", x.end(1), false);
            Given.put(x, "match num;");
            x.match();
            Given.due("not refused", x.end(1), false);
        });
        Given.test("match: NONE, refused (1), with a FAULT (all stays)", () -> {
            MatchTrees x = Given.matched("kind b;con t;con f;match b num;arm t,3 when 1;arm any,any;budget 2;");
            x.run(3);
            x.turn(1);
            x.swap(0, 1);
            x.choose(3);
            Given.put(x, 0, 0, 255);
            x.see();
            x.image();
            Given.put(x, "kind q;con r;con s;match q;arm r;rule 2;budget 5;kind z;");
            Given.due("match", x.match(), NONE);
            Given.due("refused", x.status(1), 1);
            int[] has = {1, 2, 2, 40, 2, 253, 3, 1, 1, 4, 1};
            for (int what = 0; what < has.length; what++) {
                Given.due("has " + what, x.has(what), has[what]);
            }
            Given.due("letter", x.letter(1, 1, 0), 6);
            Given.due("guard", x.arm(1, 1), 1);
            Given.due("fits", x.fits(1, 0, 1), 0);
            Given.due("octet", x.octet(1), 1);
            Given.due("kept", x.kept(0, 1), 0);
            Given.due("sets", x.sets(NONE), 0);
            Given.due("all behind an END", x.tree(0, 0), 1);
            Given.due("undo", x.undo(), true);
            Given.due("undo", x.undo(), true);
            Given.due("budget", x.scopes(0, 0, 0), 2);
        });
        Given.test("a new match: nothing of an older or a refused one is left", BoundTextTest::manyMatches);
        Given.test("match without a FAULT: all is as at first, nothing is KEPT or SEEN, no ACT can be undone; the"
            + " seed stays", () -> {
            String text = "match num;arm 1 when 0;arm 2;rule 1;";
            MatchTrees x = Given.matched(text);
            x.chance(3);
            x.turn(0);
            x.drop(0);
            x.choose(2);
            Given.put(x, 0, 0, 255);
            x.see();
            int seed = x.has(10);
            Given.put(x, text);
            Given.due("match", x.match(), 4);
            int[] has = {0, 0, 1, 20, 2, 255, 1, 0, 0, 0, seed};
            for (int what = 0; what < has.length; what++) {
                Given.due("has " + what, x.has(what), has[what]);
            }
            Given.due("undo", x.undo(), false);
            Given.due("kept", x.kept(0, 0), NONE);
            Given.due("sets", x.sets(NONE), 256);
            Given.arms("as at first", x, 0, 1);
        });
    }

    private static void manyMatches() {
        String[] texts = {
            "kind b;con t;con f;kind k;con p;con q b num;kind m;con u;con v;con w;kind n;con z;match m b n num;"
                + "arm u,t,z,1 when 2;arm v,any,any,3 to 7;arm any,f,any,19 when 1;arm any,any,any,any;rule 2;"
                + "budget 9;",
            "match num;arm 3;",
            "kind t;con b;con q num;kind zz;match t;arm b;arm q(any)when 0;arm q(3)or b;budget 2;",
            "kind p;con z;kind u;con k;con t;con w;con v;match u p;arm any,z;arm k or t,any;rule 3;",
            "match num;",
            "kind b;con t;con f;match b b b;arm t,any,f;arm f,f,any when 7;arm any,t,t when 0;"
        };
        MatchTrees x = new MatchTrees();
        for (int first = 0; first < texts.length; first++) {
            for (int then = 0; then < texts.length; then++) {
                for (String text : new String[] {texts[first], "kind q;con k;match q q q q;kind", texts[then]}) {
                    Given.put(x, text);
                    x.match();
                    x.best(0);
                }
                Given.same("behind " + texts[first], Given.answers(x), Given.answers(Given.matched(texts[then])));
                x.drop(0);
                x.turn(0);
            }
        }
    }

    private static void rows() {
        String pair = "kind b;con t;con f;kind o;con n;con s b;match o b num;";
        Given.test("row: The tape is THE TEXT of a ROW (blanks as in I): its number", () -> {
            MatchTrees x = Given.matched(pair);
            Given.goodRow(x, "n,t,0", 0);
            Given.goodRow(x, "s(f),f,19", 119);
            Given.goodRow(x, "\n s\n( t ) ,\nf , 0007 \n", 67);
            MatchTrees two = Given.matched("kind b;con t;con f;kind k;con p;con q num b;con r b num;match k num;");
            Given.goodRow(two, "p,0", 0);
            Given.goodRow(two, "q(7,f),3", (1 + 7 * 2 + 1) * 20 + 3);
            Given.goodRow(two, "r(f,19),19", 81 * 20 - 1);
            Given.badRow(two, "q(7,f,1),3", 1, 5);
            Given.badRow(two, "q(7,n),3", 3, 4);
            Given.badRow(two, "r(f,20),3", 4, 4);
            Given.badRow(two, "q(7),3", 1, 3);
        });
        Given.test("row: FAULT 1 as in I, at the length, if it ends too soon", () -> {
            MatchTrees x = Given.matched(pair);
            StringBuilder s = new StringBuilder();
            for (String token : "s ( t ) , f ,".split(" ")) {
                Given.badRow(x, s.toString(), 1, s.length());
                s.append(token);
                Given.badRow(x, s + " \n", 1, s.length() + 2);
            }
            Given.badRow(x, s.toString(), 1, s.length());
        });
        Given.test("row: FAULT 1 as in I, the first byte with which no ROW goes on", () -> {
            MatchTrees x = Given.matched(pair);
            Given.badRow(x, "n,t,1,", 1, 5);
            Given.badRow(x, "n,t,1;", 1, 5);
            Given.badRow(x, "n,t,1 2", 1, 6);
            Given.badRow(x, "n,t;1", 1, 3);
            Given.badRow(x, "n(t),t,1", 1, 1);
            Given.badRow(x, "s,t,1", 1, 1);
            Given.badRow(x, "s(t,f),t,1", 1, 3);
            Given.badRow(x, "n,t,q", 1, 4);
            Given.badRow(x, "n,1,1", 1, 2);
            Given.badRow(x, "n,t,any", 1, 4);
            Given.badRow(x, "n,any,1", 1, 2);
            Given.badRow(x, "n or n,t,1", 1, 2);
            Given.badRow(x, "n,t,1\t", 1, 5);
        });
        Given.test("row: FAULT 1 as in I, a 7th letter, a 5th digit at itself; side by side", () -> {
            MatchTrees x = Given.matched(pair);
            Given.badRow(x, "abcdefg,t,1", 1, 6);
            Given.badRow(x, "n,t,00001", 1, 8);
            Given.badRow(x, "n,t,abcdefg", 1, 10);
            Given.badRow(x, "n,12345", 1, 6);
            Given.badRow(x, "n,t,1 abcdefg", 1, 12);
            Given.badRow(x, "n,t,1x", 1, 5);
            Given.badRow(x, "n1,t,1", 1, 1);
        });
        Given.test("row: FAULT 3, 4 as in I, at its first byte", () -> {
            MatchTrees x = Given.matched(pair);
            Given.badRow(x, "q,t,1", 3, 0);
            Given.badRow(x, "t,t,1", 3, 0);
            Given.badRow(x, "o,t,1", 3, 0);
            Given.badRow(x, "s(n),t,1", 3, 2);
            Given.badRow(x, "n, s,1", 3, 3);
            Given.badRow(x, "n,t,20", 4, 4);
            Given.badRow(x, "n,t, 9999", 4, 5);
            Given.due("refused", x.status(1), 7);
        });
        Given.test("row: FAULT 1 without a match, at 0", () -> {
            MatchTrees x = new MatchTrees();
            Given.badRow(x, "  3", 1, 0);
            Given.badRow(x, "", 1, 0);
            Given.due("refused", x.status(1), 2);
        });
        Given.test("row: The tape goes, refused or not", () -> {
            MatchTrees x = new MatchTrees();
            Given.put(x, "3");
            x.row();
            Given.due("without a match", x.end(1), false);
            Given.put(x, "match num;");
            x.match();
            Given.put(x, "20");
            x.row();
            Given.due("refused", x.end(1), false);
            Given.put(x, "19");
            x.row();
            Given.due("not refused", x.end(1), false);
        });
    }

    public static void main(String[] args) {
        statements();
        places();
        bytes();
        namesAndNumbers();
        sizes();
        firstFault();
        matches();
        rows();
        Given.finish();
    }
}
