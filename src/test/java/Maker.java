import java.util.ArrayList;
import java.util.List;
import java.util.Random;

/** Makes match texts, row texts and marred ones, by a seed. */
final class Maker {
    private static final List<String> OWN = List.of("kind", "con", "match", "arm", "when", "rule", "budget", "num",
        "any", "or", "to");
    private static final int NUM = -1;

    private record Con(String name, int kind, List<Integer> fields) {
    }

    final Random random;
    private final List<String> names = new ArrayList<>();
    private final List<String> kinds = new ArrayList<>();
    private final List<Con> cons = new ArrayList<>();
    private List<Integer> columns = new ArrayList<>();

    Maker(long seed) {
        random = new Random(seed);
    }

    private int below(int n) {
        return random.nextInt(n);
    }

    private boolean chance(int ofHundred) {
        return below(100) < ofHundred;
    }

    private String name() {
        while (true) {
            StringBuilder s = new StringBuilder();
            int length = chance(70) ? 1 : 1 + below(6);
            for (int i = 0; i < length; i++) {
                s.append((char) ('a' + below(26)));
            }
            String name = s.toString();
            if (!names.contains(name) && !OWN.contains(name)) {
                names.add(name);
                return name;
            }
        }
    }

    private List<Con> consOf(int kind) {
        return cons.stream().filter(c -> c.kind == kind).toList();
    }

    int size(int kind) {
        if (kind == NUM) {
            return 20;
        }
        int sum = 0;
        for (Con c : consOf(kind)) {
            sum += product(c.fields);
        }
        return sum;
    }

    int product(List<Integer> its) {
        long product = 1;
        for (int k : its) {
            product = Math.min(1000000, product * size(k));
        }
        return (int) product;
    }

    private List<Integer> usable(int below) {
        List<Integer> all = new ArrayList<>(List.of(NUM));
        for (int k = 0; k < below; k++) {
            if (size(k) > 0) {
                all.add(k);
            }
        }
        return all;
    }

    /** A match of at most so many rows. */
    String match(int rowsMost) {
        names.clear();
        kinds.clear();
        cons.clear();
        List<String> said = new ArrayList<>();
        int kindCount = below(5);
        for (int k = 0; k < kindCount; k++) {
            kinds.add(name());
            said.add("kind " + kinds.get(k));
            int conCount = chance(5) ? 0 : 1 + below(chance(20) ? 6 : 3);
            for (int c = 0; c < conCount; c++) {
                said.add(con(k, rowsMost));
            }
        }
        columns = new ArrayList<>();
        for (int tries = 0; columns.isEmpty() || tries < 4 && chance(80); tries++) {
            List<Integer> more = new ArrayList<>(columns);
            List<Integer> usable = usable(kinds.size());
            more.add(usable.get(below(usable.size())));
            if (product(more) <= rowsMost && more.size() <= 4) {
                columns = more;
            }
        }
        StringBuilder s = new StringBuilder("match");
        columns.forEach(k -> s.append(' ').append(k == NUM ? "num" : kinds.get(k)));
        said.add(s.toString());
        int arms = chance(10) ? 12 : below(9);
        for (int a = 0; a < arms; a++) {
            said.add(arm());
        }
        if (chance(50)) {
            said.add(below(said.size() + 1), "rule " + below(4));
        }
        if (chance(50)) {
            said.add(below(said.size() + 1), "budget " + (1 + below(chance(50) ? 12 : 999)));
        }
        return blanks(String.join(";", said) + ";");
    }

    private String con(int kind, int valuesMost) {
        List<Integer> usable = usable(kind);
        List<Integer> fields = new ArrayList<>();
        int count = chance(50) ? 0 : 1 + below(2);
        for (int i = 0; i < count; i++) {
            List<Integer> more = new ArrayList<>(fields);
            more.add(usable.get(below(usable.size())));
            if (size(kind) + product(more) <= Math.min(valuesMost, 2000)) {
                fields = more;
            }
        }
        Con c = new Con(name(), kind, fields);
        cons.add(c);
        StringBuilder s = new StringBuilder("con " + c.name);
        fields.forEach(f -> s.append(' ').append(f == NUM ? "num" : kinds.get(f)));
        return s.toString();
    }

    private String arm() {
        List<String> patterns = new ArrayList<>();
        columns.forEach(k -> patterns.add(pattern(k, 0)));
        return "arm " + String.join(",", patterns) + (chance(35) ? " when " + below(chance(50) ? 2 : 8) : "");
    }

    private String pattern(int kind, int depth) {
        StringBuilder s = new StringBuilder(alternative(kind, depth));
        while (chance(25 - 6 * depth)) {
            s.append(" or ").append(alternative(kind, depth));
        }
        return s.toString();
    }

    private String alternative(int kind, int depth) {
        if (chance(35)) {
            return "any";
        }
        if (kind == NUM) {
            int low = below(20);
            return low + (chance(60) ? " to " + (low + below(20 - low)) : "");
        }
        List<Con> its = consOf(kind);
        Con c = its.get(below(its.size()));
        List<String> inner = new ArrayList<>();
        c.fields.forEach(f -> inner.add(pattern(f, depth + 1)));
        return c.name + (inner.isEmpty() ? "" : "(" + String.join(",", inner) + ")");
    }

    String row() {
        List<String> values = new ArrayList<>();
        columns.forEach(k -> values.add(value(k)));
        return blanks(String.join(",", values));
    }

    private String value(int kind) {
        if (kind == NUM) {
            return "" + below(20);
        }
        List<Con> its = consOf(kind);
        Con c = its.get(below(its.size()));
        List<String> inner = new ArrayList<>();
        c.fields.forEach(f -> inner.add(value(f)));
        return c.name + (inner.isEmpty() ? "" : "(" + String.join(",", inner) + ")");
    }

    /** Blanks where one likes. */
    private String blanks(String text) {
        int often = chance(50) ? 0 : below(30);
        StringBuilder s = new StringBuilder();
        for (int i = 0; i < text.length(); i++) {
            char c = text.charAt(i);
            char ahead = i == 0 ? ';' : text.charAt(i - 1);
            boolean within = Character.isLetterOrDigit(c) && Character.isLetterOrDigit(ahead);
            if (!within && chance(often)) {
                s.append(chance(50) ? ' ' : '\n');
            }
            s.append(c);
        }
        return s.toString();
    }

    /** The text with one to three bytes or words of it changed. */
    String mar(String text) {
        StringBuilder s = new StringBuilder(text);
        int changes = 1 + below(3);
        for (int i = 0; i < changes && s.length() > 0; i++) {
            int at = below(s.length());
            switch (below(6)) {
                case 0 -> s.deleteCharAt(at);
                case 1 -> s.insert(at, anyByte());
                case 2 -> s.setCharAt(at, anyByte());
                case 3 -> s.insert(at, word());
                case 4 -> s.setLength(at);
                default -> changeWord(s, at);
            }
        }
        return s.toString();
    }

    private char anyByte() {
        String usual = " \n;,()aknot0129A\t#";
        return chance(95) ? usual.charAt(below(usual.length())) : (char) below(256);
    }

    private String word() {
        String w = switch (below(5)) {
            case 0 -> OWN.get(below(OWN.size()));
            case 1 -> names.isEmpty() ? "q" : names.get(below(names.size()));
            case 2 -> "" + below(chance(70) ? 25 : 20000);
            case 3 -> "abcdefghij".substring(0, 1 + below(10));
            default -> ";kind zz;con yy;match num;arm any;rule 9;budget 9;".substring(below(30));
        };
        return chance(80) ? " " + w + " " : w;
    }

    private void changeWord(StringBuilder s, int at) {
        int from = at;
        while (from > 0 && Character.isLetterOrDigit(s.charAt(from - 1))) {
            from--;
        }
        int to = at;
        while (to < s.length() && Character.isLetterOrDigit(s.charAt(to))) {
            to++;
        }
        s.replace(from, to, word().trim());
    }
}
