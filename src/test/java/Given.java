import java.nio.charset.StandardCharsets;

/** What tests share: bytes for the tape, and counted checks. */
final class Given {
    static int wrong;
    static int checks;

    private Given() {
    }

    static void put(MatchTrees x, String text) {
        put(x, text.getBytes(StandardCharsets.ISO_8859_1));
    }

    /** Puts bytes on an empty tape. */
    static void put(MatchTrees x, byte[] bytes) {
        for (int from = 0; from < bytes.length; from += 20) {
            int[] n = new int[5];
            for (int i = 0; i < 20; i++) {
                int b = from + i < bytes.length ? bytes[from + i] & 255 : ' ';
                n[i / 4] = n[i / 4] << 8 | b;
            }
            x.feed(n[0], n[1], n[2], n[3], n[4]);
        }
        x.end(bytes.length);
    }

    static MatchTrees matched(String text) {
        MatchTrees x = new MatchTrees();
        put(x, text);
        if (x.match() < 0) {
            wrong++;
            System.out.println("refused, fault " + x.fault(0) + " at " + x.fault(1) + ": " + text);
        }
        return x;
    }

    static void due(String what, int got, int want) {
        checks++;
        if (got != want) {
            wrong++;
            System.out.println(what + " answered " + got + ", due is " + want);
        }
    }

    static void due(String what, boolean got, boolean want) {
        due(what, got ? 1 : 0, want ? 1 : 0);
    }

    /** The text that was written last, of so many bytes. */
    static String octets(MatchTrees x, int length) {
        StringBuilder s = new StringBuilder();
        for (int k = 0; k < length; k++) {
            s.append((char) x.octet(k));
        }
        return s.toString();
    }

    static void same(String what, String got, String want) {
        checks++;
        if (!got.equals(want)) {
            wrong++;
            System.out.println(what + " is \"" + got + "\", due is \"" + want + "\"");
        }
    }

    static void finish() {
        System.out.println(checks + " checks, " + wrong + " wrong");
        if (wrong > 0) {
            System.exit(1);
        }
    }
}
