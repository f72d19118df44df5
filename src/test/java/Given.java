import java.nio.charset.StandardCharsets;

/** What tests share: bytes for the tape, and counted checks. */
final class Given {
    static final int NONE = MatchTrees.NONE;
    static final int LOW = Integer.MIN_VALUE;
    static final int HIGH = Integer.MAX_VALUE;
    static int wrong;
    static int checks;
    private static int tests;

    private Given() {
    }

    /** A test of its own for a sentence of the document, which is told when it is broken. */
    static void test(String sentence, Runnable body) {
        int ahead = wrong;
        body.run();
        tests++;
        if (wrong > ahead) {
            System.out.println("  broken: " + sentence);
        }
    }

    static void put(MatchTrees x, String text) {
        put(x, text.getBytes(StandardCharsets.ISO_8859_1));
    }

    /** Puts bytes on an empty tape. */
    static void put(MatchTrees x, byte[] bytes) {
        for (int from = 0; from < bytes.length; from += 20) {
            int[] n = new int[5];
            for (int i = 0; i < 20; i++) {
                int b = from + i < bytes.length ? bytes[from + i] & 255 : ' ';
                n[i / 4] = n[i / 4] << 8 | b;
            }
            x.feed(n[0], n[1], n[2], n[3], n[4]);
        }
        x.end(bytes.length);
    }

    /** Puts numbers 0 to 255 on the tape in place of what is there. */
    static void put(MatchTrees x, int... numbers) {
        byte[] bytes = new byte[numbers.length];
        for (int i = 0; i < numbers.length; i++) {
            bytes[i] = (byte) numbers[i];
        }
        x.end(0);
        put(x, bytes);
    }

    static MatchTrees matched(String text) {
        MatchTrees x = new MatchTrees();
        put(x, text);
        if (x.match() < 0) {
            wrong++;
            System.out.println("refused, fault " + x.fault(0) + " at " + x.fault(1) + ": " + text);
        }
        return x;
    }

    static void due(String what, int got, int want) {
        checks++;
        if (got != want) {
            wrong++;
            System.out.println(what + " answered " + got + ", due is " + want);
        }
    }

    static void due(String what, boolean got, boolean want) {
        due(what, got ? 1 : 0, want ? 1 : 0);
    }

    /** The match of a text on the tape is refused with a fault at a place. */
    static void bad(MatchTrees x, String text, int fault, int place) {
        put(x, text);
        due("match " + text, x.match(), NONE);
        due("fault of " + text, x.fault(0), fault);
        due("place in " + text, x.fault(1), place);
    }

    static void bad(String text, int fault, int place) {
        bad(new MatchTrees(), text, fault, place);
    }

    /** The match of a text has so many statements. */
    static MatchTrees good(String text, int statements) {
        MatchTrees x = new MatchTrees();
        put(x, text);
        due("match " + text, x.match(), statements);
        due("fault of " + text, x.fault(0), 0);
        due("place in " + text, x.fault(1), NONE);
        return x;
    }

    static void badRow(MatchTrees x, String text, int fault, int place) {
        put(x, text);
        due("row " + text, x.row(), NONE);
        due("fault of row " + text, x.fault(0), fault);
        due("place in row " + text, x.fault(1), place);
    }

    static void goodRow(MatchTrees x, String text, int row) {
        put(x, text);
        due("row " + text, x.row(), row);
        due("fault of row " + text, x.fault(0), 0);
        due("place in row " + text, x.fault(1), NONE);
    }

    /** The arms at the places, as told, and none behind them. */
    static void arms(String what, MatchTrees x, int... told) {
        due(what + ": arms", x.has(4), told.length);
        for (int place = 0; place < told.length; place++) {
            due(what + ": arm at " + place, x.arm(place, 0), told[place]);
        }
        due(what + ": arm behind", x.arm(told.length, 0), NONE);
    }

    /** What an object answers to calls that change nothing, the seed and refusals left out. */
    static String answers(MatchTrees x) {
        StringBuilder s = new StringBuilder();
        for (int a = -1; a < 10; a++) {
            s.append("\nhas ").append(x.has(a)).append(" values ").append(x.values(a)).append(" best ")
                .append(x.best(a)).append(" tells ").append(x.tells(a)).append(" first ").append(x.first(a));
        }
        for (int a = -1; a < 26; a++) {
            s.append("\nmissing ").append(x.missing(a)).append(" taken ").append(x.taken(a)).append(" sets ")
                .append(x.sets(a)).append(" text ").append(octets(x, x.text(a))).append(" letters");
            for (int k = 0; k < 6; k++) {
                s.append(' ').append(x.letter(0, a, k)).append(' ').append(x.letter(1, a, k));
            }
        }
        for (int a = -1; a < 13; a++) {
            s.append("\npair");
            for (int b = -1; b < 13; b++) {
                s.append(' ').append(x.holds(a, b)).append(' ').append(x.safe(a, b)).append(' ').append(x.arm(a, b))
                    .append(' ').append(x.tree(a, b)).append(' ').append(x.kept(a, b));
            }
        }
        for (int a = -1; a < 13; a++) {
            s.append("\nthree");
            for (int b = -1; b < 5; b++) {
                for (int c = 0; c < 25; c++) {
                    s.append(' ').append(x.fits(a, b, c)).append(' ').append(x.scopes(a, b, c));
                }
            }
        }
        return s.append("\nimage ").append(octets(x, x.image())).toString();
    }

    /** The text that was written last, of so many bytes. */
    static String octets(MatchTrees x, int length) {
        StringBuilder s = new StringBuilder();
        for (int k = 0; k < length; k++) {
            s.append((char) x.octet(k));
        }
        return s.toString();
    }

    static void same(String what, String got, String want) {
        checks++;
        if (!got.equals(want)) {
            wrong++;
            System.out.println(what + " is \"" + got + "\", due is \"" + want + "\"");
        }
    }

    static void finish() {
        String told = tests > 0 ? tests + " tests, " : "";
        System.out.println(told + checks + " checks, " + wrong + " wrong");
        if (wrong > 0) {
            System.exit(1);
        }
    }
}
